/-- a figure stands at place p that is in the bounds -/
abbrev kfig (L : Nat) (tx : Nat → Int32) (p : Nat) (a b : Int64) : Prop := p < L ∧ ¬ r_X7_in (((tx p) - 48).toInt64) a b = 0
theorem kfig_ge {L : Nat} {tx : Nat → Int32} {p : Nat} {a b : Int64} (h : kfig L tx p a b) (ha : 0 ≤ a) : (0 : Int) ≤ ((tx p) - 48).toInt := by
  have h2 := h.2
  rw [kin_iff] at h2
  split at h2
  · rename_i hh
    have a1 := Int64.le_iff_toInt_le.mp hh.1
    have a2 := Int64.le_iff_toInt_le.mp ha
    rw [Int32.toInt_toInt64] at a1
    simp at a2
    omega
  · exact absurd rfl h2
theorem kfig_ne {L : Nat} {tx : Nat → Int32} {p : Nat} {a b : Int64} (h : kfig L tx p a b) (ha : 0 ≤ a) : ¬ (tx p) - 48 = (-9) := by
  intro q
  have := kfig_ge h ha
  rw [q] at this
  exact absurd this (by decide)
theorem kfig_b01 {L : Nat} {tx : Nat → Int32} {p : Nat} (h : kfig L tx p 0 1) : (tx p) - 48 = 0 ∨ (tx p) - 48 = 1 := by
  have h2 := h.2
  obtain ⟨e1, e2⟩ := kin_of (N := 1) h2 (by decide) (by decide)
  rw [e1]
  rcases (show ((tx p) - 48).toNatClampNeg = 0 ∨ ((tx p) - 48).toNatClampNeg = 1 by omega) with e | e <;> rw [e]
  · exact Or.inl rfl
  · exact Or.inr rfl
theorem kfig_ne10 {L : Nat} {tx : Nat → Int32} {p : Nat} (h : kfig L tx p 0 1) : ¬ 10 + ((tx p) - 48) = (-9) := by
  rcases kfig_b01 h with e | e <;> rw [e] <;> decide
theorem kfig_ne20 {L : Nat} {tx : Nat → Int32} {p : Nat} (h : kfig L tx p 0 1) : ¬ 20 + ((tx p) - 48) = (-9) := by
  rcases kfig_b01 h with e | e <;> rw [e] <;> decide
theorem kin_neg9 {a b : Int64} (ha : 0 ≤ a) : r_X7_in (-9) a b = 0 := by
  rw [kin_iff, if_neg]
  intro h
  have a1 := Int64.le_iff_toInt_le.mp h.1
  have a2 := Int64.le_iff_toInt_le.mp ha
  simp at a1 a2
  omega
theorem knle_lt {a b : Nat} (h : ¬ nI a ≤ nI b) (ha : a < 2 ^ 31) (hb : b < 2 ^ 31) : b < a := by
  rcases Nat.lt_or_ge b a with q | q
  · exact q
  · exact absurd (nI_le q hb) h

set_option maxHeartbeats 4000000 in
set_option maxRecDepth 100000 in
theorem c_X7_figure_ok_19 (l : Launch) (G : kG) (Z : Nat → Int32) (L : Nat) (pl : Nat) (sd : Int64) (h0 : Nat) (q1 : Nat) (q2 : Nat) (q3 : Nat) (q4 : Nat) (q5 : Nat) (q6 : Nat) (q7 : Nat) (q8 : Nat) (q9 : Nat) (q10 : Nat) (q11 : Nat) (tx : Nat → Int32) (hL : L ≤ 70) (hk : kfig L tx pl 1 9) : cG l G yX7_figure cX7_figure 4 (some .int) 1 [.ref h0, .int 1, .int 9] ([(h0, .inr (7, cM (upd (upd Z 2 (nI L)) 3 (nI pl)) q1 q2 q3 q4 q5 q6 q7 q8 q9 q10 q11 sd)), (q1, .inl (G.2.1, 70, .inl tx))]) (qI G (fun (r : Int32) (_ : Unit) => r = (tx pl) - 48) (fun _ => [(h0, .inr (7, cM (upd (upd (upd Z 2 (nI L)) 3 (nI pl)) 3 (nI (pl + 1))) q1 q2 q3 q4 q5 q6 q7 q8 q9 q10 q11 sd)), (q1, .inl (G.2.1, 70, .inl tx))])) := by
  refine kintro (by decide) (Nat.le_of_ble_eq_true rfl) ?_
  intro p e s m args below meth c A ls kx hK hP hD hS hA hl
  have kx : kX p s m args meth c cX7_figure 4 (some .int) RX7 := kx
  have hx := kx.1
  have hb := kx.2.1
  have hown := kx.2.2.2.2.1
  have ht := kx.2.2.2.2.2.2
  have hl : lv_has ls 4 [(0, .ref h0), (1, .int 1), (2, .int 9)] := hl
  have hpL := hk.1
  refine lv_aload_n hx hb dX7_figure_0 rfl (lv_at hl 0 rfl) ?_
  refine va_get (ci := 7) (v := .int (nI pl)) (C := RX7) (T := TX7) (N := 22) hx hb ht inX7 hown hK.1 hP 0 rfl rfl 3 (by decide) (ht _ q_669) (fun _ h9 => h9) rfl dX7_figure_1 ?_
  refine lv_aload_n hx hb dX7_figure_4 rfl (lv_at hl 0 rfl) ?_
  refine va_get (ci := 7) (v := .int (nI L)) (C := RX7) (T := TX7) (N := 22) hx hb ht inX7 hown hK.1 hP 0 rfl rfl 2 (by decide) (ht _ q_668) (fun _ h9 => h9) rfl dX7_figure_5 ?_
  refine lv_icmp_ge (x := nI pl) (y := nI L) (tgt := 26) hx hb dX7_figure_8 (by decide) (fun (c1 : nI L ≤ nI pl) => absurd c1 (knle rfl hk.1 (by omega))) (fun (c1 : ¬ (nI L ≤ nI pl)) => ?_)
  refine lv_aload_n hx hb dX7_figure_11 rfl (lv_at hl 0 rfl) ?_
  refine va_get (ci := 7) (v := .ref q1) (C := RX7) (T := TX7) (N := 22) hx hb ht inX7 hown hK.1 hP 0 rfl rfl 1 (by decide) (ht _ q_667) (fun _ h9 => h9) rfl dX7_figure_12 ?_
  refine lv_aload_n hx hb dX7_figure_15 rfl (lv_at hl 0 rfl) ?_
  refine va_get (ci := 7) (v := .int (nI pl)) (C := RX7) (T := TX7) (N := 22) hx hb ht inX7 hown hK.1 hP 0 rfl rfl 3 (by decide) (ht _ q_669) (fun _ h9 => h9) rfl dX7_figure_16 ?_
  refine k_iald (v := (tx pl)) kx hK hP 1 rfl pl rfl (by omega) (by decide) rfl dX7_figure_19 ?_
  refine lv_bipush (v := 48) hx hb dX7_figure_20 (by decide) ?_
  refine lv_isub hx hb dX7_figure_22 ?_
  refine lv_goto (tgt := 28) hx hb dX7_figure_23 (by decide) ?_
  refine lv_istore_n (lv' := [(3, .int ((tx pl) - 48)), (0, .ref h0), (1, .int 1), (2, .int 9)]) hx hb dX7_figure_28 rfl hl (by decide) rfl (fun ls1 hl1 => ?_)
  refine lv_iload_n hx hb dX7_figure_29 rfl (lv_at hl1 0 rfl) ?_
  refine lv_i2l (v := ((tx pl) - 48).toInt64) hx hb dX7_figure_30 rfl ?_
  refine lv_iload_n hx hb dX7_figure_31 rfl (lv_at hl1 2 rfl) ?_
  refine lv_i2l (v := 1) hx hb dX7_figure_32 (by decide +kernel) ?_
  refine lv_iload_n hx hb dX7_figure_33 rfl (lv_at hl1 3 rfl) ?_
  refine lv_i2l (v := 9) hx hb dX7_figure_34 (by decide +kernel) ?_
  refine k_calli (kRunS (As := [.long (((tx pl) - 48).toInt64), .long 1, .long 9]) (rest := []) kx (c_X7_in l G (((tx pl) - 48).toInt64) 1 9) q_740 q_738 q_36 q_739 nX7_in ⟨Nat.le_of_ble_eq_true rfl, Nat.le_of_ble_eq_true rfl⟩ hK hP hD (kCtx_nil _) rfl hl1.1 (Nat.le_of_ble_eq_true rfl) dX7_figure_35 ⟨Nat.zero_le _, Nat.zero_le _⟩) hP hD hS hA (kCtx_nil _) (fun _ => rfl) (fun r2 _ H2 locs2 hw hP2 hD2 hS2 => ?_)
  have hr2 : r_X7_in (((tx pl) - 48).toInt64) 1 9 = r2 := (show r2 = r_X7_in (((tx pl) - 48).toInt64) 1 9 from hw).symm
  have hP3 : va_P G.1 vwCl ([(h0, .inr (7, cM (upd (upd Z 2 (nI L)) 3 (nI pl)) q1 q2 q3 q4 q5 q6 q7 q8 q9 q10 q11 sd)), (q1, .inl (G.2.1, 70, .inl tx))]) H2 := hP2
  have hD4 : va_D A ([(h0, .inr (7, cM (upd (upd Z 2 (nI L)) 3 (nI pl)) q1 q2 q3 q4 q5 q6 q7 q8 q9 q10 q11 sd)), (q1, .inl (G.2.1, 70, .inl tx))]) := hD2
  refine lv_if_ne (x := r2) (tgt := 44) hx hb dX7_figure_38 (by decide) (fun (c3 : ¬ (r2 = 0)) => ?_) (fun (c3 : r2 = 0) => absurd c3 (fun q => hk.2 (hr2.trans q)))
  refine lv_aload_n hx hb dX7_figure_44 rfl (lv_at hl1 1 rfl) ?_
  refine lv_dup hx hb dX7_figure_45 rfl ?_
  refine va_get (ci := 7) (v := .int (nI pl)) (C := RX7) (T := TX7) (N := 22) hx hb ht inX7 hown hK.1 hP3 0 rfl rfl 3 (by decide) (ht _ q_669) (fun _ h9 => h9) rfl dX7_figure_46 ?_
  refine lv_iconst (v := 1) hx hb dX7_figure_49 (by decide) ?_
  refine lv_iadd hx hb dX7_figure_50 ?_
  refine k_top (y := nI (pl + 1)) (nI_1 _) ?_
  refine va_put (ci := 7) (v := .int (nI (pl + 1))) (ty := .int) (C := RX7) (T := TX7) (N := 22) hx hb ht inX7 tyX7 tyX7_ok nmX7 hown hK.1 hP3 hD4 hS2 0 rfl rfl 3 (by decide) (ht _ q_669) (fun _ h9 => h9) rfl (by decide +kernel) rfl rfl (Nat.le_of_ble_eq_true rfl) dX7_figure_51 (fun H5 locs5 hP5 hD5 hS5 => ?_)
  have hP6 : va_P G.1 vwCl ([(h0, .inr (7, cM (upd (upd (upd Z 2 (nI L)) 3 (nI pl)) 3 (nI (pl + 1))) q1 q2 q3 q4 q5 q6 q7 q8 q9 q10 q11 sd)), (q1, .inl (G.2.1, 70, .inl tx))]) H5 := hP5
  have hD7 : va_D A ([(h0, .inr (7, cM (upd (upd (upd Z 2 (nI L)) 3 (nI pl)) 3 (nI (pl + 1))) q1 q2 q3 q4 q5 q6 q7 q8 q9 q10 q11 sd)), (q1, .inl (G.2.1, 70, .inl tx))]) := hD5
  refine lv_iload_n hx hb dX7_figure_54 rfl (lv_at hl1 0 rfl) ?_
  exact k_iret kx hK hP6 hD7 hS5 (u := ()) rfl rfl dX7_figure_55

set_option maxHeartbeats 4000000 in
set_option maxRecDepth 100000 in
theorem c_X7_figure_n1_19 (l : Launch) (G : kG) (Z : Nat → Int32) (L : Nat) (pl : Nat) (sd : Int64) (h0 : Nat) (q1 : Nat) (q2 : Nat) (q3 : Nat) (q4 : Nat) (q5 : Nat) (q6 : Nat) (q7 : Nat) (q8 : Nat) (q9 : Nat) (q10 : Nat) (q11 : Nat) (tx : Nat → Int32) (hL : L ≤ 70) (hpL : pl < L) (hn : r_X7_in (((tx pl) - 48).toInt64) 1 9 = 0) : cG l G yX7_figure cX7_figure 4 (some .int) 1 [.ref h0, .int 1, .int 9] ([(h0, .inr (7, cM (upd (upd Z 2 (nI L)) 3 (nI pl)) q1 q2 q3 q4 q5 q6 q7 q8 q9 q10 q11 sd)), (q1, .inl (G.2.1, 70, .inl tx))]) (qI G (fun (r : Int32) (_ : Unit) => r = (-9)) (fun _ => [(h0, .inr (7, cM (upd (upd Z 2 (nI L)) 3 (nI pl)) q1 q2 q3 q4 q5 q6 q7 q8 q9 q10 q11 sd)), (q1, .inl (G.2.1, 70, .inl tx))])) := by
  refine kintro (by decide) (Nat.le_of_ble_eq_true rfl) ?_
  intro p e s m args below meth c A ls kx hK hP hD hS hA hl
  have kx : kX p s m args meth c cX7_figure 4 (some .int) RX7 := kx
  have hx := kx.1
  have hb := kx.2.1
  have hown := kx.2.2.2.2.1
  have ht := kx.2.2.2.2.2.2
  have hl : lv_has ls 4 [(0, .ref h0), (1, .int 1), (2, .int 9)] := hl
  refine lv_aload_n hx hb dX7_figure_0 rfl (lv_at hl 0 rfl) ?_
  refine va_get (ci := 7) (v := .int (nI pl)) (C := RX7) (T := TX7) (N := 22) hx hb ht inX7 hown hK.1 hP 0 rfl rfl 3 (by decide) (ht _ q_669) (fun _ h9 => h9) rfl dX7_figure_1 ?_
  refine lv_aload_n hx hb dX7_figure_4 rfl (lv_at hl 0 rfl) ?_
  refine va_get (ci := 7) (v := .int (nI L)) (C := RX7) (T := TX7) (N := 22) hx hb ht inX7 hown hK.1 hP 0 rfl rfl 2 (by decide) (ht _ q_668) (fun _ h9 => h9) rfl dX7_figure_5 ?_
  refine lv_icmp_ge (x := nI pl) (y := nI L) (tgt := 26) hx hb dX7_figure_8 (by decide) (fun (c1 : nI L ≤ nI pl) => absurd c1 (knle rfl hpL (by omega))) (fun (c1 : ¬ (nI L ≤ nI pl)) => ?_)
  refine lv_aload_n hx hb dX7_figure_11 rfl (lv_at hl 0 rfl) ?_
  refine va_get (ci := 7) (v := .ref q1) (C := RX7) (T := TX7) (N := 22) hx hb ht inX7 hown hK.1 hP 0 rfl rfl 1 (by decide) (ht _ q_667) (fun _ h9 => h9) rfl dX7_figure_12 ?_
  refine lv_aload_n hx hb dX7_figure_15 rfl (lv_at hl 0 rfl) ?_
  refine va_get (ci := 7) (v := .int (nI pl)) (C := RX7) (T := TX7) (N := 22) hx hb ht inX7 hown hK.1 hP 0 rfl rfl 3 (by decide) (ht _ q_669) (fun _ h9 => h9) rfl dX7_figure_16 ?_
  refine k_iald (v := (tx pl)) kx hK hP 1 rfl pl rfl (by omega) (by decide) rfl dX7_figure_19 ?_
  refine lv_bipush (v := 48) hx hb dX7_figure_20 (by decide) ?_
  refine lv_isub hx hb dX7_figure_22 ?_
  refine lv_goto (tgt := 28) hx hb dX7_figure_23 (by decide) ?_
  refine lv_istore_n (lv' := [(3, .int ((tx pl) - 48)), (0, .ref h0), (1, .int 1), (2, .int 9)]) hx hb dX7_figure_28 rfl hl (by decide) rfl (fun ls1 hl1 => ?_)
  refine lv_iload_n hx hb dX7_figure_29 rfl (lv_at hl1 0 rfl) ?_
  refine lv_i2l (v := ((tx pl) - 48).toInt64) hx hb dX7_figure_30 rfl ?_
  refine lv_iload_n hx hb dX7_figure_31 rfl (lv_at hl1 2 rfl) ?_
  refine lv_i2l (v := 1) hx hb dX7_figure_32 (by decide +kernel) ?_
  refine lv_iload_n hx hb dX7_figure_33 rfl (lv_at hl1 3 rfl) ?_
  refine lv_i2l (v := 9) hx hb dX7_figure_34 (by decide +kernel) ?_
  refine k_calli (kRunS (As := [.long (((tx pl) - 48).toInt64), .long 1, .long 9]) (rest := []) kx (c_X7_in l G (((tx pl) - 48).toInt64) 1 9) q_740 q_738 q_36 q_739 nX7_in ⟨Nat.le_of_ble_eq_true rfl, Nat.le_of_ble_eq_true rfl⟩ hK hP hD (kCtx_nil _) rfl hl1.1 (Nat.le_of_ble_eq_true rfl) dX7_figure_35 ⟨Nat.zero_le _, Nat.zero_le _⟩) hP hD hS hA (kCtx_nil _) (fun _ => rfl) (fun r2 _ H2 locs2 hw hP2 hD2 hS2 => ?_)
  have hr2 : r_X7_in (((tx pl) - 48).toInt64) 1 9 = r2 := (show r2 = r_X7_in (((tx pl) - 48).toInt64) 1 9 from hw).symm
  have hP3 : va_P G.1 vwCl ([(h0, .inr (7, cM (upd (upd Z 2 (nI L)) 3 (nI pl)) q1 q2 q3 q4 q5 q6 q7 q8 q9 q10 q11 sd)), (q1, .inl (G.2.1, 70, .inl tx))]) H2 := hP2
  have hD4 : va_D A ([(h0, .inr (7, cM (upd (upd Z 2 (nI L)) 3 (nI pl)) q1 q2 q3 q4 q5 q6 q7 q8 q9 q10 q11 sd)), (q1, .inl (G.2.1, 70, .inl tx))]) := hD2
  refine lv_if_ne (x := r2) (tgt := 44) hx hb dX7_figure_38 (by decide) (fun (c3 : ¬ (r2 = 0)) => absurd (hr2.symm.trans hn) c3) (fun (c3 : r2 = 0) => ?_)
  refine lv_bipush (v := (-9)) hx hb dX7_figure_41 (by decide) ?_
  exact k_iret kx hK hP3 hD4 hS2 (u := ()) rfl rfl dX7_figure_43

set_option maxHeartbeats 4000000 in
set_option maxRecDepth 100000 in
theorem c_X7_figure_n2_19 (l : Launch) (G : kG) (Z : Nat → Int32) (L : Nat) (pl : Nat) (sd : Int64) (h0 : Nat) (q1 : Nat) (q2 : Nat) (q3 : Nat) (q4 : Nat) (q5 : Nat) (q6 : Nat) (q7 : Nat) (q8 : Nat) (q9 : Nat) (q10 : Nat) (q11 : Nat) (tx : Nat → Int32) (hL : L ≤ 70) (hp : pl ≤ L) (hq : L ≤ pl) : cG l G yX7_figure cX7_figure 4 (some .int) 1 [.ref h0, .int 1, .int 9] ([(h0, .inr (7, cM (upd (upd Z 2 (nI L)) 3 (nI pl)) q1 q2 q3 q4 q5 q6 q7 q8 q9 q10 q11 sd)), (q1, .inl (G.2.1, 70, .inl tx))]) (qI G (fun (r : Int32) (_ : Unit) => r = (-9)) (fun _ => [(h0, .inr (7, cM (upd (upd Z 2 (nI L)) 3 (nI pl)) q1 q2 q3 q4 q5 q6 q7 q8 q9 q10 q11 sd)), (q1, .inl (G.2.1, 70, .inl tx))])) := by
  refine kintro (by decide) (Nat.le_of_ble_eq_true rfl) ?_
  intro p e s m args below meth c A ls kx hK hP hD hS hA hl
  have kx : kX p s m args meth c cX7_figure 4 (some .int) RX7 := kx
  have hx := kx.1
  have hb := kx.2.1
  have hown := kx.2.2.2.2.1
  have ht := kx.2.2.2.2.2.2
  have hl : lv_has ls 4 [(0, .ref h0), (1, .int 1), (2, .int 9)] := hl
  refine lv_aload_n hx hb dX7_figure_0 rfl (lv_at hl 0 rfl) ?_
  refine va_get (ci := 7) (v := .int (nI pl)) (C := RX7) (T := TX7) (N := 22) hx hb ht inX7 hown hK.1 hP 0 rfl rfl 3 (by decide) (ht _ q_669) (fun _ h9 => h9) rfl dX7_figure_1 ?_
  refine lv_aload_n hx hb dX7_figure_4 rfl (lv_at hl 0 rfl) ?_
  refine va_get (ci := 7) (v := .int (nI L)) (C := RX7) (T := TX7) (N := 22) hx hb ht inX7 hown hK.1 hP 0 rfl rfl 2 (by decide) (ht _ q_668) (fun _ h9 => h9) rfl dX7_figure_5 ?_
  refine lv_icmp_ge (x := nI pl) (y := nI L) (tgt := 26) hx hb dX7_figure_8 (by decide) (fun (c1 : nI L ≤ nI pl) => ?_) (fun (c1 : ¬ (nI L ≤ nI pl)) => absurd (nI_le hq (by omega)) c1)
  refine lv_bipush (v := (-9)) hx hb dX7_figure_26 (by decide) ?_
  refine lv_istore_n (lv' := [(3, .int (-9)), (0, .ref h0), (1, .int 1), (2, .int 9)]) hx hb dX7_figure_28 rfl hl (by decide) rfl (fun ls1 hl1 => ?_)
  refine lv_iload_n hx hb dX7_figure_29 rfl (lv_at hl1 0 rfl) ?_
  refine lv_i2l (v := (-9)) hx hb dX7_figure_30 (by decide +kernel) ?_
  refine lv_iload_n hx hb dX7_figure_31 rfl (lv_at hl1 2 rfl) ?_
  refine lv_i2l (v := 1) hx hb dX7_figure_32 (by decide +kernel) ?_
  refine lv_iload_n hx hb dX7_figure_33 rfl (lv_at hl1 3 rfl) ?_
  refine lv_i2l (v := 9) hx hb dX7_figure_34 (by decide +kernel) ?_
  refine k_calli (kRunS (As := [.long (-9), .long 1, .long 9]) (rest := []) kx (c_X7_in l G (-9) 1 9) q_740 q_738 q_36 q_739 nX7_in ⟨Nat.le_of_ble_eq_true rfl, Nat.le_of_ble_eq_true rfl⟩ hK hP hD (kCtx_nil _) rfl hl1.1 (Nat.le_of_ble_eq_true rfl) dX7_figure_35 ⟨Nat.zero_le _, Nat.zero_le _⟩) hP hD hS hA (kCtx_nil _) (fun _ => rfl) (fun r2 _ H2 locs2 hw hP2 hD2 hS2 => ?_)
  have hr2 : r_X7_in (-9) 1 9 = r2 := (show r2 = r_X7_in (-9) 1 9 from hw).symm
  have hP3 : va_P G.1 vwCl ([(h0, .inr (7, cM (upd (upd Z 2 (nI L)) 3 (nI pl)) q1 q2 q3 q4 q5 q6 q7 q8 q9 q10 q11 sd)), (q1, .inl (G.2.1, 70, .inl tx))]) H2 := hP2
  have hD4 : va_D A ([(h0, .inr (7, cM (upd (upd Z 2 (nI L)) 3 (nI pl)) q1 q2 q3 q4 q5 q6 q7 q8 q9 q10 q11 sd)), (q1, .inl (G.2.1, 70, .inl tx))]) := hD2
  refine lv_if_ne (x := r2) (tgt := 44) hx hb dX7_figure_38 (by decide) (fun (c3 : ¬ (r2 = 0)) => absurd (hr2.symm.trans (kin_neg9 (by decide))) c3) (fun (c3 : r2 = 0) => ?_)
  refine lv_bipush (v := (-9)) hx hb dX7_figure_41 (by decide) ?_
  exact k_iret kx hK hP3 hD4 hS2 (u := ()) rfl rfl dX7_figure_43

set_option maxHeartbeats 4000000 in
theorem c_X7_figure_no_19 (l : Launch) (G : kG) (Z : Nat → Int32) (L : Nat) (pl : Nat) (sd : Int64) (h0 : Nat) (q1 : Nat) (q2 : Nat) (q3 : Nat) (q4 : Nat) (q5 : Nat) (q6 : Nat) (q7 : Nat) (q8 : Nat) (q9 : Nat) (q10 : Nat) (q11 : Nat) (tx : Nat → Int32) (hL : L ≤ 70) (hp : pl ≤ L) (hk : ¬ kfig L tx pl 1 9) : cG l G yX7_figure cX7_figure 4 (some .int) 1 [.ref h0, .int 1, .int 9] ([(h0, .inr (7, cM (upd (upd Z 2 (nI L)) 3 (nI pl)) q1 q2 q3 q4 q5 q6 q7 q8 q9 q10 q11 sd)), (q1, .inl (G.2.1, 70, .inl tx))]) (qI G (fun (r : Int32) (_ : Unit) => r = (-9)) (fun _ => [(h0, .inr (7, cM (upd (upd Z 2 (nI L)) 3 (nI pl)) q1 q2 q3 q4 q5 q6 q7 q8 q9 q10 q11 sd)), (q1, .inl (G.2.1, 70, .inl tx))])) := by
  rcases Nat.lt_or_ge pl L with h | h
  · exact c_X7_figure_n1_19 l G Z L pl sd h0 q1 q2 q3 q4 q5 q6 q7 q8 q9 q10 q11 tx hL h (Decidable.byContradiction (fun q => hk ⟨h, q⟩))
  · exact c_X7_figure_n2_19 l G Z L pl sd h0 q1 q2 q3 q4 q5 q6 q7 q8 q9 q10 q11 tx hL hp h

set_option maxHeartbeats 4000000 in
set_option maxRecDepth 100000 in
theorem c_X7_figure_ok_15 (l : Launch) (G : kG) (Z : Nat → Int32) (L : Nat) (pl : Nat) (sd : Int64) (h0 : Nat) (q1 : Nat) (q2 : Nat) (q3 : Nat) (q4 : Nat) (q5 : Nat) (q6 : Nat) (q7 : Nat) (q8 : Nat) (q9 : Nat) (q10 : Nat) (q11 : Nat) (tx : Nat → Int32) (hL : L ≤ 70) (hk : kfig L tx pl 1 5) : cG l G yX7_figure cX7_figure 4 (some .int) 1 [.ref h0, .int 1, .int 5] ([(h0, .inr (7, cM (upd (upd Z 2 (nI L)) 3 (nI pl)) q1 q2 q3 q4 q5 q6 q7 q8 q9 q10 q11 sd)), (q1, .inl (G.2.1, 70, .inl tx))]) (qI G (fun (r : Int32) (_ : Unit) => r = (tx pl) - 48) (fun _ => [(h0, .inr (7, cM (upd (upd (upd Z 2 (nI L)) 3 (nI pl)) 3 (nI (pl + 1))) q1 q2 q3 q4 q5 q6 q7 q8 q9 q10 q11 sd)), (q1, .inl (G.2.1, 70, .inl tx))])) := by
  refine kintro (by decide) (Nat.le_of_ble_eq_true rfl) ?_
  intro p e s m args below meth c A ls kx hK hP hD hS hA hl
  have kx : kX p s m args meth c cX7_figure 4 (some .int) RX7 := kx
  have hx := kx.1
  have hb := kx.2.1
  have hown := kx.2.2.2.2.1
  have ht := kx.2.2.2.2.2.2
  have hl : lv_has ls 4 [(0, .ref h0), (1, .int 1), (2, .int 5)] := hl
  have hpL := hk.1
  refine lv_aload_n hx hb dX7_figure_0 rfl (lv_at hl 0 rfl) ?_
  refine va_get (ci := 7) (v := .int (nI pl)) (C := RX7) (T := TX7) (N := 22) hx hb ht inX7 hown hK.1 hP 0 rfl rfl 3 (by decide) (ht _ q_669) (fun _ h9 => h9) rfl dX7_figure_1 ?_
  refine lv_aload_n hx hb dX7_figure_4 rfl (lv_at hl 0 rfl) ?_
  refine va_get (ci := 7) (v := .int (nI L)) (C := RX7) (T := TX7) (N := 22) hx hb ht inX7 hown hK.1 hP 0 rfl rfl 2 (by decide) (ht _ q_668) (fun _ h9 => h9) rfl dX7_figure_5 ?_
  refine lv_icmp_ge (x := nI pl) (y := nI L) (tgt := 26) hx hb dX7_figure_8 (by decide) (fun (c1 : nI L ≤ nI pl) => absurd c1 (knle rfl hk.1 (by omega))) (fun (c1 : ¬ (nI L ≤ nI pl)) => ?_)
  refine lv_aload_n hx hb dX7_figure_11 rfl (lv_at hl 0 rfl) ?_
  refine va_get (ci := 7) (v := .ref q1) (C := RX7) (T := TX7) (N := 22) hx hb ht inX7 hown hK.1 hP 0 rfl rfl 1 (by decide) (ht _ q_667) (fun _ h9 => h9) rfl dX7_figure_12 ?_
  refine lv_aload_n hx hb dX7_figure_15 rfl (lv_at hl 0 rfl) ?_
  refine va_get (ci := 7) (v := .int (nI pl)) (C := RX7) (T := TX7) (N := 22) hx hb ht inX7 hown hK.1 hP 0 rfl rfl 3 (by decide) (ht _ q_669) (fun _ h9 => h9) rfl dX7_figure_16 ?_
  refine k_iald (v := (tx pl)) kx hK hP 1 rfl pl rfl (by omega) (by decide) rfl dX7_figure_19 ?_
  refine lv_bipush (v := 48) hx hb dX7_figure_20 (by decide) ?_
  refine lv_isub hx hb dX7_figure_22 ?_
  refine lv_goto (tgt := 28) hx hb dX7_figure_23 (by decide) ?_
  refine lv_istore_n (lv' := [(3, .int ((tx pl) - 48)), (0, .ref h0), (1, .int 1), (2, .int 5)]) hx hb dX7_figure_28 rfl hl (by decide) rfl (fun ls1 hl1 => ?_)
  refine lv_iload_n hx hb dX7_figure_29 rfl (lv_at hl1 0 rfl) ?_
  refine lv_i2l (v := ((tx pl) - 48).toInt64) hx hb dX7_figure_30 rfl ?_
  refine lv_iload_n hx hb dX7_figure_31 rfl (lv_at hl1 2 rfl) ?_
  refine lv_i2l (v := 1) hx hb dX7_figure_32 (by decide +kernel) ?_
  refine lv_iload_n hx hb dX7_figure_33 rfl (lv_at hl1 3 rfl) ?_
  refine lv_i2l (v := 5) hx hb dX7_figure_34 (by decide +kernel) ?_
  refine k_calli (kRunS (As := [.long (((tx pl) - 48).toInt64), .long 1, .long 5]) (rest := []) kx (c_X7_in l G (((tx pl) - 48).toInt64) 1 5) q_740 q_738 q_36 q_739 nX7_in ⟨Nat.le_of_ble_eq_true rfl, Nat.le_of_ble_eq_true rfl⟩ hK hP hD (kCtx_nil _) rfl hl1.1 (Nat.le_of_ble_eq_true rfl) dX7_figure_35 ⟨Nat.zero_le _, Nat.zero_le _⟩) hP hD hS hA (kCtx_nil _) (fun _ => rfl) (fun r2 _ H2 locs2 hw hP2 hD2 hS2 => ?_)
  have hr2 : r_X7_in (((tx pl) - 48).toInt64) 1 5 = r2 := (show r2 = r_X7_in (((tx pl) - 48).toInt64) 1 5 from hw).symm
  have hP3 : va_P G.1 vwCl ([(h0, .inr (7, cM (upd (upd Z 2 (nI L)) 3 (nI pl)) q1 q2 q3 q4 q5 q6 q7 q8 q9 q10 q11 sd)), (q1, .inl (G.2.1, 70, .inl tx))]) H2 := hP2
  have hD4 : va_D A ([(h0, .inr (7, cM (upd (upd Z 2 (nI L)) 3 (nI pl)) q1 q2 q3 q4 q5 q6 q7 q8 q9 q10 q11 sd)), (q1, .inl (G.2.1, 70, .inl tx))]) := hD2
  refine lv_if_ne (x := r2) (tgt := 44) hx hb dX7_figure_38 (by decide) (fun (c3 : ¬ (r2 = 0)) => ?_) (fun (c3 : r2 = 0) => absurd c3 (fun q => hk.2 (hr2.trans q)))
  refine lv_aload_n hx hb dX7_figure_44 rfl (lv_at hl1 1 rfl) ?_
  refine lv_dup hx hb dX7_figure_45 rfl ?_
  refine va_get (ci := 7) (v := .int (nI pl)) (C := RX7) (T := TX7) (N := 22) hx hb ht inX7 hown hK.1 hP3 0 rfl rfl 3 (by decide) (ht _ q_669) (fun _ h9 => h9) rfl dX7_figure_46 ?_
  refine lv_iconst (v := 1) hx hb dX7_figure_49 (by decide) ?_
  refine lv_iadd hx hb dX7_figure_50 ?_
  refine k_top (y := nI (pl + 1)) (nI_1 _) ?_
  refine va_put (ci := 7) (v := .int (nI (pl + 1))) (ty := .int) (C := RX7) (T := TX7) (N := 22) hx hb ht inX7 tyX7 tyX7_ok nmX7 hown hK.1 hP3 hD4 hS2 0 rfl rfl 3 (by decide) (ht _ q_669) (fun _ h9 => h9) rfl (by decide +kernel) rfl rfl (Nat.le_of_ble_eq_true rfl) dX7_figure_51 (fun H5 locs5 hP5 hD5 hS5 => ?_)
  have hP6 : va_P G.1 vwCl ([(h0, .inr (7, cM (upd (upd (upd Z 2 (nI L)) 3 (nI pl)) 3 (nI (pl + 1))) q1 q2 q3 q4 q5 q6 q7 q8 q9 q10 q11 sd)), (q1, .inl (G.2.1, 70, .inl tx))]) H5 := hP5
  have hD7 : va_D A ([(h0, .inr (7, cM (upd (upd (upd Z 2 (nI L)) 3 (nI pl)) 3 (nI (pl + 1))) q1 q2 q3 q4 q5 q6 q7 q8 q9 q10 q11 sd)), (q1, .inl (G.2.1, 70, .inl tx))]) := hD5
  refine lv_iload_n hx hb dX7_figure_54 rfl (lv_at hl1 0 rfl) ?_
  exact k_iret kx hK hP6 hD7 hS5 (u := ()) rfl rfl dX7_figure_55

set_option maxHeartbeats 4000000 in
set_option maxRecDepth 100000 in
theorem c_X7_figure_n1_15 (l : Launch) (G : kG) (Z : Nat → Int32) (L : Nat) (pl : Nat) (sd : Int64) (h0 : Nat) (q1 : Nat) (q2 : Nat) (q3 : Nat) (q4 : Nat) (q5 : Nat) (q6 : Nat) (q7 : Nat) (q8 : Nat) (q9 : Nat) (q10 : Nat) (q11 : Nat) (tx : Nat → Int32) (hL : L ≤ 70) (hpL : pl < L) (hn : r_X7_in (((tx pl) - 48).toInt64) 1 5 = 0) : cG l G yX7_figure cX7_figure 4 (some .int) 1 [.ref h0, .int 1, .int 5] ([(h0, .inr (7, cM (upd (upd Z 2 (nI L)) 3 (nI pl)) q1 q2 q3 q4 q5 q6 q7 q8 q9 q10 q11 sd)), (q1, .inl (G.2.1, 70, .inl tx))]) (qI G (fun (r : Int32) (_ : Unit) => r = (-9)) (fun _ => [(h0, .inr (7, cM (upd (upd Z 2 (nI L)) 3 (nI pl)) q1 q2 q3 q4 q5 q6 q7 q8 q9 q10 q11 sd)), (q1, .inl (G.2.1, 70, .inl tx))])) := by
  refine kintro (by decide) (Nat.le_of_ble_eq_true rfl) ?_
  intro p e s m args below meth c A ls kx hK hP hD hS hA hl
  have kx : kX p s m args meth c cX7_figure 4 (some .int) RX7 := kx
  have hx := kx.1
  have hb := kx.2.1
  have hown := kx.2.2.2.2.1
  have ht := kx.2.2.2.2.2.2
  have hl : lv_has ls 4 [(0, .ref h0), (1, .int 1), (2, .int 5)] := hl
  refine lv_aload_n hx hb dX7_figure_0 rfl (lv_at hl 0 rfl) ?_
  refine va_get (ci := 7) (v := .int (nI pl)) (C := RX7) (T := TX7) (N := 22) hx hb ht inX7 hown hK.1 hP 0 rfl rfl 3 (by decide) (ht _ q_669) (fun _ h9 => h9) rfl dX7_figure_1 ?_
  refine lv_aload_n hx hb dX7_figure_4 rfl (lv_at hl 0 rfl) ?_
  refine va_get (ci := 7) (v := .int (nI L)) (C := RX7) (T := TX7) (N := 22) hx hb ht inX7 hown hK.1 hP 0 rfl rfl 2 (by decide) (ht _ q_668) (fun _ h9 => h9) rfl dX7_figure_5 ?_
  refine lv_icmp_ge (x := nI pl) (y := nI L) (tgt := 26) hx hb dX7_figure_8 (by decide) (fun (c1 : nI L ≤ nI pl) => absurd c1 (knle rfl hpL (by omega))) (fun (c1 : ¬ (nI L ≤ nI pl)) => ?_)
  refine lv_aload_n hx hb dX7_figure_11 rfl (lv_at hl 0 rfl) ?_
  refine va_get (ci := 7) (v := .ref q1) (C := RX7) (T := TX7) (N := 22) hx hb ht inX7 hown hK.1 hP 0 rfl rfl 1 (by decide) (ht _ q_667) (fun _ h9 => h9) rfl dX7_figure_12 ?_
  refine lv_aload_n hx hb dX7_figure_15 rfl (lv_at hl 0 rfl) ?_
  refine va_get (ci := 7) (v := .int (nI pl)) (C := RX7) (T := TX7) (N := 22) hx hb ht inX7 hown hK.1 hP 0 rfl rfl 3 (by decide) (ht _ q_669) (fun _ h9 => h9) rfl dX7_figure_16 ?_
  refine k_iald (v := (tx pl)) kx hK hP 1 rfl pl rfl (by omega) (by decide) rfl dX7_figure_19 ?_
  refine lv_bipush (v := 48) hx hb dX7_figure_20 (by decide) ?_
  refine lv_isub hx hb dX7_figure_22 ?_
  refine lv_goto (tgt := 28) hx hb dX7_figure_23 (by decide) ?_
  refine lv_istore_n (lv' := [(3, .int ((tx pl) - 48)), (0, .ref h0), (1, .int 1), (2, .int 5)]) hx hb dX7_figure_28 rfl hl (by decide) rfl (fun ls1 hl1 => ?_)
  refine lv_iload_n hx hb dX7_figure_29 rfl (lv_at hl1 0 rfl) ?_
  refine lv_i2l (v := ((tx pl) - 48).toInt64) hx hb dX7_figure_30 rfl ?_
  refine lv_iload_n hx hb dX7_figure_31 rfl (lv_at hl1 2 rfl) ?_
  refine lv_i2l (v := 1) hx hb dX7_figure_32 (by decide +kernel) ?_
  refine lv_iload_n hx hb dX7_figure_33 rfl (lv_at hl1 3 rfl) ?_
  refine lv_i2l (v := 5) hx hb dX7_figure_34 (by decide +kernel) ?_
  refine k_calli (kRunS (As := [.long (((tx pl) - 48).toInt64), .long 1, .long 5]) (rest := []) kx (c_X7_in l G (((tx pl) - 48).toInt64) 1 5) q_740 q_738 q_36 q_739 nX7_in ⟨Nat.le_of_ble_eq_true rfl, Nat.le_of_ble_eq_true rfl⟩ hK hP hD (kCtx_nil _) rfl hl1.1 (Nat.le_of_ble_eq_true rfl) dX7_figure_35 ⟨Nat.zero_le _, Nat.zero_le _⟩) hP hD hS hA (kCtx_nil _) (fun _ => rfl) (fun r2 _ H2 locs2 hw hP2 hD2 hS2 => ?_)
  have hr2 : r_X7_in (((tx pl) - 48).toInt64) 1 5 = r2 := (show r2 = r_X7_in (((tx pl) - 48).toInt64) 1 5 from hw).symm
  have hP3 : va_P G.1 vwCl ([(h0, .inr (7, cM (upd (upd Z 2 (nI L)) 3 (nI pl)) q1 q2 q3 q4 q5 q6 q7 q8 q9 q10 q11 sd)), (q1, .inl (G.2.1, 70, .inl tx))]) H2 := hP2
  have hD4 : va_D A ([(h0, .inr (7, cM (upd (upd Z 2 (nI L)) 3 (nI pl)) q1 q2 q3 q4 q5 q6 q7 q8 q9 q10 q11 sd)), (q1, .inl (G.2.1, 70, .inl tx))]) := hD2
  refine lv_if_ne (x := r2) (tgt := 44) hx hb dX7_figure_38 (by decide) (fun (c3 : ¬ (r2 = 0)) => absurd (hr2.symm.trans hn) c3) (fun (c3 : r2 = 0) => ?_)
  refine lv_bipush (v := (-9)) hx hb dX7_figure_41 (by decide) ?_
  exact k_iret kx hK hP3 hD4 hS2 (u := ()) rfl rfl dX7_figure_43

set_option maxHeartbeats 4000000 in
set_option maxRecDepth 100000 in
theorem c_X7_figure_n2_15 (l : Launch) (G : kG) (Z : Nat → Int32) (L : Nat) (pl : Nat) (sd : Int64) (h0 : Nat) (q1 : Nat) (q2 : Nat) (q3 : Nat) (q4 : Nat) (q5 : Nat) (q6 : Nat) (q7 : Nat) (q8 : Nat) (q9 : Nat) (q10 : Nat) (q11 : Nat) (tx : Nat → Int32) (hL : L ≤ 70) (hp : pl ≤ L) (hq : L ≤ pl) : cG l G yX7_figure cX7_figure 4 (some .int) 1 [.ref h0, .int 1, .int 5] ([(h0, .inr (7, cM (upd (upd Z 2 (nI L)) 3 (nI pl)) q1 q2 q3 q4 q5 q6 q7 q8 q9 q10 q11 sd)), (q1, .inl (G.2.1, 70, .inl tx))]) (qI G (fun (r : Int32) (_ : Unit) => r = (-9)) (fun _ => [(h0, .inr (7, cM (upd (upd Z 2 (nI L)) 3 (nI pl)) q1 q2 q3 q4 q5 q6 q7 q8 q9 q10 q11 sd)), (q1, .inl (G.2.1, 70, .inl tx))])) := by
  refine kintro (by decide) (Nat.le_of_ble_eq_true rfl) ?_
  intro p e s m args below meth c A ls kx hK hP hD hS hA hl
  have kx : kX p s m args meth c cX7_figure 4 (some .int) RX7 := kx
  have hx := kx.1
  have hb := kx.2.1
  have hown := kx.2.2.2.2.1
  have ht := kx.2.2.2.2.2.2
  have hl : lv_has ls 4 [(0, .ref h0), (1, .int 1), (2, .int 5)] := hl
  refine lv_aload_n hx hb dX7_figure_0 rfl (lv_at hl 0 rfl) ?_
  refine va_get (ci := 7) (v := .int (nI pl)) (C := RX7) (T := TX7) (N := 22) hx hb ht inX7 hown hK.1 hP 0 rfl rfl 3 (by decide) (ht _ q_669) (fun _ h9 => h9) rfl dX7_figure_1 ?_
  refine lv_aload_n hx hb dX7_figure_4 rfl (lv_at hl 0 rfl) ?_
  refine va_get (ci := 7) (v := .int (nI L)) (C := RX7) (T := TX7) (N := 22) hx hb ht inX7 hown hK.1 hP 0 rfl rfl 2 (by decide) (ht _ q_668) (fun _ h9 => h9) rfl dX7_figure_5 ?_
  refine lv_icmp_ge (x := nI pl) (y := nI L) (tgt := 26) hx hb dX7_figure_8 (by decide) (fun (c1 : nI L ≤ nI pl) => ?_) (fun (c1 : ¬ (nI L ≤ nI pl)) => absurd (nI_le hq (by omega)) c1)
  refine lv_bipush (v := (-9)) hx hb dX7_figure_26 (by decide) ?_
  refine lv_istore_n (lv' := [(3, .int (-9)), (0, .ref h0), (1, .int 1), (2, .int 5)]) hx hb dX7_figure_28 rfl hl (by decide) rfl (fun ls1 hl1 => ?_)
  refine lv_iload_n hx hb dX7_figure_29 rfl (lv_at hl1 0 rfl) ?_
  refine lv_i2l (v := (-9)) hx hb dX7_figure_30 (by decide +kernel) ?_
  refine lv_iload_n hx hb dX7_figure_31 rfl (lv_at hl1 2 rfl) ?_
  refine lv_i2l (v := 1) hx hb dX7_figure_32 (by decide +kernel) ?_
  refine lv_iload_n hx hb dX7_figure_33 rfl (lv_at hl1 3 rfl) ?_
  refine lv_i2l (v := 5) hx hb dX7_figure_34 (by decide +kernel) ?_
  refine k_calli (kRunS (As := [.long (-9), .long 1, .long 5]) (rest := []) kx (c_X7_in l G (-9) 1 5) q_740 q_738 q_36 q_739 nX7_in ⟨Nat.le_of_ble_eq_true rfl, Nat.le_of_ble_eq_true rfl⟩ hK hP hD (kCtx_nil _) rfl hl1.1 (Nat.le_of_ble_eq_true rfl) dX7_figure_35 ⟨Nat.zero_le _, Nat.zero_le _⟩) hP hD hS hA (kCtx_nil _) (fun _ => rfl) (fun r2 _ H2 locs2 hw hP2 hD2 hS2 => ?_)
  have hr2 : r_X7_in (-9) 1 5 = r2 := (show r2 = r_X7_in (-9) 1 5 from hw).symm
  have hP3 : va_P G.1 vwCl ([(h0, .inr (7, cM (upd (upd Z 2 (nI L)) 3 (nI pl)) q1 q2 q3 q4 q5 q6 q7 q8 q9 q10 q11 sd)), (q1, .inl (G.2.1, 70, .inl tx))]) H2 := hP2
  have hD4 : va_D A ([(h0, .inr (7, cM (upd (upd Z 2 (nI L)) 3 (nI pl)) q1 q2 q3 q4 q5 q6 q7 q8 q9 q10 q11 sd)), (q1, .inl (G.2.1, 70, .inl tx))]) := hD2
  refine lv_if_ne (x := r2) (tgt := 44) hx hb dX7_figure_38 (by decide) (fun (c3 : ¬ (r2 = 0)) => absurd (hr2.symm.trans (kin_neg9 (by decide))) c3) (fun (c3 : r2 = 0) => ?_)
  refine lv_bipush (v := (-9)) hx hb dX7_figure_41 (by decide) ?_
  exact k_iret kx hK hP3 hD4 hS2 (u := ()) rfl rfl dX7_figure_43

set_option maxHeartbeats 4000000 in
theorem c_X7_figure_no_15 (l : Launch) (G : kG) (Z : Nat → Int32) (L : Nat) (pl : Nat) (sd : Int64) (h0 : Nat) (q1 : Nat) (q2 : Nat) (q3 : Nat) (q4 : Nat) (q5 : Nat) (q6 : Nat) (q7 : Nat) (q8 : Nat) (q9 : Nat) (q10 : Nat) (q11 : Nat) (tx : Nat → Int32) (hL : L ≤ 70) (hp : pl ≤ L) (hk : ¬ kfig L tx pl 1 5) : cG l G yX7_figure cX7_figure 4 (some .int) 1 [.ref h0, .int 1, .int 5] ([(h0, .inr (7, cM (upd (upd Z 2 (nI L)) 3 (nI pl)) q1 q2 q3 q4 q5 q6 q7 q8 q9 q10 q11 sd)), (q1, .inl (G.2.1, 70, .inl tx))]) (qI G (fun (r : Int32) (_ : Unit) => r = (-9)) (fun _ => [(h0, .inr (7, cM (upd (upd Z 2 (nI L)) 3 (nI pl)) q1 q2 q3 q4 q5 q6 q7 q8 q9 q10 q11 sd)), (q1, .inl (G.2.1, 70, .inl tx))])) := by
  rcases Nat.lt_or_ge pl L with h | h
  · exact c_X7_figure_n1_15 l G Z L pl sd h0 q1 q2 q3 q4 q5 q6 q7 q8 q9 q10 q11 tx hL h (Decidable.byContradiction (fun q => hk ⟨h, q⟩))
  · exact c_X7_figure_n2_15 l G Z L pl sd h0 q1 q2 q3 q4 q5 q6 q7 q8 q9 q10 q11 tx hL hp h

set_option maxHeartbeats 4000000 in
set_option maxRecDepth 100000 in
theorem c_X7_figure_ok_01 (l : Launch) (G : kG) (Z : Nat → Int32) (L : Nat) (pl : Nat) (sd : Int64) (h0 : Nat) (q1 : Nat) (q2 : Nat) (q3 : Nat) (q4 : Nat) (q5 : Nat) (q6 : Nat) (q7 : Nat) (q8 : Nat) (q9 : Nat) (q10 : Nat) (q11 : Nat) (tx : Nat → Int32) (hL : L ≤ 70) (hk : kfig L tx pl 0 1) : cG l G yX7_figure cX7_figure 4 (some .int) 1 [.ref h0, .int 0, .int 1] ([(h0, .inr (7, cM (upd (upd Z 2 (nI L)) 3 (nI pl)) q1 q2 q3 q4 q5 q6 q7 q8 q9 q10 q11 sd)), (q1, .inl (G.2.1, 70, .inl tx))]) (qI G (fun (r : Int32) (_ : Unit) => r = (tx pl) - 48) (fun _ => [(h0, .inr (7, cM (upd (upd (upd Z 2 (nI L)) 3 (nI pl)) 3 (nI (pl + 1))) q1 q2 q3 q4 q5 q6 q7 q8 q9 q10 q11 sd)), (q1, .inl (G.2.1, 70, .inl tx))])) := by
  refine kintro (by decide) (Nat.le_of_ble_eq_true rfl) ?_
  intro p e s m args below meth c A ls kx hK hP hD hS hA hl
  have kx : kX p s m args meth c cX7_figure 4 (some .int) RX7 := kx
  have hx := kx.1
  have hb := kx.2.1
  have hown := kx.2.2.2.2.1
  have ht := kx.2.2.2.2.2.2
  have hl : lv_has ls 4 [(0, .ref h0), (1, .int 0), (2, .int 1)] := hl
  have hpL := hk.1
  refine lv_aload_n hx hb dX7_figure_0 rfl (lv_at hl 0 rfl) ?_
  refine va_get (ci := 7) (v := .int (nI pl)) (C := RX7) (T := TX7) (N := 22) hx hb ht inX7 hown hK.1 hP 0 rfl rfl 3 (by decide) (ht _ q_669) (fun _ h9 => h9) rfl dX7_figure_1 ?_
  refine lv_aload_n hx hb dX7_figure_4 rfl (lv_at hl 0 rfl) ?_
  refine va_get (ci := 7) (v := .int (nI L)) (C := RX7) (T := TX7) (N := 22) hx hb ht inX7 hown hK.1 hP 0 rfl rfl 2 (by decide) (ht _ q_668) (fun _ h9 => h9) rfl dX7_figure_5 ?_
  refine lv_icmp_ge (x := nI pl) (y := nI L) (tgt := 26) hx hb dX7_figure_8 (by decide) (fun (c1 : nI L ≤ nI pl) => absurd c1 (knle rfl hk.1 (by omega))) (fun (c1 : ¬ (nI L ≤ nI pl)) => ?_)
  refine lv_aload_n hx hb dX7_figure_11 rfl (lv_at hl 0 rfl) ?_
  refine va_get (ci := 7) (v := .ref q1) (C := RX7) (T := TX7) (N := 22) hx hb ht inX7 hown hK.1 hP 0 rfl rfl 1 (by decide) (ht _ q_667) (fun _ h9 => h9) rfl dX7_figure_12 ?_
  refine lv_aload_n hx hb dX7_figure_15 rfl (lv_at hl 0 rfl) ?_
  refine va_get (ci := 7) (v := .int (nI pl)) (C := RX7) (T := TX7) (N := 22) hx hb ht inX7 hown hK.1 hP 0 rfl rfl 3 (by decide) (ht _ q_669) (fun _ h9 => h9) rfl dX7_figure_16 ?_
  refine k_iald (v := (tx pl)) kx hK hP 1 rfl pl rfl (by omega) (by decide) rfl dX7_figure_19 ?_
  refine lv_bipush (v := 48) hx hb dX7_figure_20 (by decide) ?_
  refine lv_isub hx hb dX7_figure_22 ?_
  refine lv_goto (tgt := 28) hx hb dX7_figure_23 (by decide) ?_
  refine lv_istore_n (lv' := [(3, .int ((tx pl) - 48)), (0, .ref h0), (1, .int 0), (2, .int 1)]) hx hb dX7_figure_28 rfl hl (by decide) rfl (fun ls1 hl1 => ?_)
  refine lv_iload_n hx hb dX7_figure_29 rfl (lv_at hl1 0 rfl) ?_
  refine lv_i2l (v := ((tx pl) - 48).toInt64) hx hb dX7_figure_30 rfl ?_
  refine lv_iload_n hx hb dX7_figure_31 rfl (lv_at hl1 2 rfl) ?_
  refine lv_i2l (v := 0) hx hb dX7_figure_32 (by decide +kernel) ?_
  refine lv_iload_n hx hb dX7_figure_33 rfl (lv_at hl1 3 rfl) ?_
  refine lv_i2l (v := 1) hx hb dX7_figure_34 (by decide +kernel) ?_
  refine k_calli (kRunS (As := [.long (((tx pl) - 48).toInt64), .long 0, .long 1]) (rest := []) kx (c_X7_in l G (((tx pl) - 48).toInt64) 0 1) q_740 q_738 q_36 q_739 nX7_in ⟨Nat.le_of_ble_eq_true rfl, Nat.le_of_ble_eq_true rfl⟩ hK hP hD (kCtx_nil _) rfl hl1.1 (Nat.le_of_ble_eq_true rfl) dX7_figure_35 ⟨Nat.zero_le _, Nat.zero_le _⟩) hP hD hS hA (kCtx_nil _) (fun _ => rfl) (fun r2 _ H2 locs2 hw hP2 hD2 hS2 => ?_)
  have hr2 : r_X7_in (((tx pl) - 48).toInt64) 0 1 = r2 := (show r2 = r_X7_in (((tx pl) - 48).toInt64) 0 1 from hw).symm
  have hP3 : va_P G.1 vwCl ([(h0, .inr (7, cM (upd (upd Z 2 (nI L)) 3 (nI pl)) q1 q2 q3 q4 q5 q6 q7 q8 q9 q10 q11 sd)), (q1, .inl (G.2.1, 70, .inl tx))]) H2 := hP2
  have hD4 : va_D A ([(h0, .inr (7, cM (upd (upd Z 2 (nI L)) 3 (nI pl)) q1 q2 q3 q4 q5 q6 q7 q8 q9 q10 q11 sd)), (q1, .inl (G.2.1, 70, .inl tx))]) := hD2
  refine lv_if_ne (x := r2) (tgt := 44) hx hb dX7_figure_38 (by decide) (fun (c3 : ¬ (r2 = 0)) => ?_) (fun (c3 : r2 = 0) => absurd c3 (fun q => hk.2 (hr2.trans q)))
  refine lv_aload_n hx hb dX7_figure_44 rfl (lv_at hl1 1 rfl) ?_
  refine lv_dup hx hb dX7_figure_45 rfl ?_
  refine va_get (ci := 7) (v := .int (nI pl)) (C := RX7) (T := TX7) (N := 22) hx hb ht inX7 hown hK.1 hP3 0 rfl rfl 3 (by decide) (ht _ q_669) (fun _ h9 => h9) rfl dX7_figure_46 ?_
  refine lv_iconst (v := 1) hx hb dX7_figure_49 (by decide) ?_
  refine lv_iadd hx hb dX7_figure_50 ?_
  refine k_top (y := nI (pl + 1)) (nI_1 _) ?_
  refine va_put (ci := 7) (v := .int (nI (pl + 1))) (ty := .int) (C := RX7) (T := TX7) (N := 22) hx hb ht inX7 tyX7 tyX7_ok nmX7 hown hK.1 hP3 hD4 hS2 0 rfl rfl 3 (by decide) (ht _ q_669) (fun _ h9 => h9) rfl (by decide +kernel) rfl rfl (Nat.le_of_ble_eq_true rfl) dX7_figure_51 (fun H5 locs5 hP5 hD5 hS5 => ?_)
  have hP6 : va_P G.1 vwCl ([(h0, .inr (7, cM (upd (upd (upd Z 2 (nI L)) 3 (nI pl)) 3 (nI (pl + 1))) q1 q2 q3 q4 q5 q6 q7 q8 q9 q10 q11 sd)), (q1, .inl (G.2.1, 70, .inl tx))]) H5 := hP5
  have hD7 : va_D A ([(h0, .inr (7, cM (upd (upd (upd Z 2 (nI L)) 3 (nI pl)) 3 (nI (pl + 1))) q1 q2 q3 q4 q5 q6 q7 q8 q9 q10 q11 sd)), (q1, .inl (G.2.1, 70, .inl tx))]) := hD5
  refine lv_iload_n hx hb dX7_figure_54 rfl (lv_at hl1 0 rfl) ?_
  exact k_iret kx hK hP6 hD7 hS5 (u := ()) rfl rfl dX7_figure_55

set_option maxHeartbeats 4000000 in
set_option maxRecDepth 100000 in
theorem c_X7_figure_n1_01 (l : Launch) (G : kG) (Z : Nat → Int32) (L : Nat) (pl : Nat) (sd : Int64) (h0 : Nat) (q1 : Nat) (q2 : Nat) (q3 : Nat) (q4 : Nat) (q5 : Nat) (q6 : Nat) (q7 : Nat) (q8 : Nat) (q9 : Nat) (q10 : Nat) (q11 : Nat) (tx : Nat → Int32) (hL : L ≤ 70) (hpL : pl < L) (hn : r_X7_in (((tx pl) - 48).toInt64) 0 1 = 0) : cG l G yX7_figure cX7_figure 4 (some .int) 1 [.ref h0, .int 0, .int 1] ([(h0, .inr (7, cM (upd (upd Z 2 (nI L)) 3 (nI pl)) q1 q2 q3 q4 q5 q6 q7 q8 q9 q10 q11 sd)), (q1, .inl (G.2.1, 70, .inl tx))]) (qI G (fun (r : Int32) (_ : Unit) => r = (-9)) (fun _ => [(h0, .inr (7, cM (upd (upd Z 2 (nI L)) 3 (nI pl)) q1 q2 q3 q4 q5 q6 q7 q8 q9 q10 q11 sd)), (q1, .inl (G.2.1, 70, .inl tx))])) := by
  refine kintro (by decide) (Nat.le_of_ble_eq_true rfl) ?_
  intro p e s m args below meth c A ls kx hK hP hD hS hA hl
  have kx : kX p s m args meth c cX7_figure 4 (some .int) RX7 := kx
  have hx := kx.1
  have hb := kx.2.1
  have hown := kx.2.2.2.2.1
  have ht := kx.2.2.2.2.2.2
  have hl : lv_has ls 4 [(0, .ref h0), (1, .int 0), (2, .int 1)] := hl
  refine lv_aload_n hx hb dX7_figure_0 rfl (lv_at hl 0 rfl) ?_
  refine va_get (ci := 7) (v := .int (nI pl)) (C := RX7) (T := TX7) (N := 22) hx hb ht inX7 hown hK.1 hP 0 rfl rfl 3 (by decide) (ht _ q_669) (fun _ h9 => h9) rfl dX7_figure_1 ?_
  refine lv_aload_n hx hb dX7_figure_4 rfl (lv_at hl 0 rfl) ?_
  refine va_get (ci := 7) (v := .int (nI L)) (C := RX7) (T := TX7) (N := 22) hx hb ht inX7 hown hK.1 hP 0 rfl rfl 2 (by decide) (ht _ q_668) (fun _ h9 => h9) rfl dX7_figure_5 ?_
  refine lv_icmp_ge (x := nI pl) (y := nI L) (tgt := 26) hx hb dX7_figure_8 (by decide) (fun (c1 : nI L ≤ nI pl) => absurd c1 (knle rfl hpL (by omega))) (fun (c1 : ¬ (nI L ≤ nI pl)) => ?_)
  refine lv_aload_n hx hb dX7_figure_11 rfl (lv_at hl 0 rfl) ?_
  refine va_get (ci := 7) (v := .ref q1) (C := RX7) (T := TX7) (N := 22) hx hb ht inX7 hown hK.1 hP 0 rfl rfl 1 (by decide) (ht _ q_667) (fun _ h9 => h9) rfl dX7_figure_12 ?_
  refine lv_aload_n hx hb dX7_figure_15 rfl (lv_at hl 0 rfl) ?_
  refine va_get (ci := 7) (v := .int (nI pl)) (C := RX7) (T := TX7) (N := 22) hx hb ht inX7 hown hK.1 hP 0 rfl rfl 3 (by decide) (ht _ q_669) (fun _ h9 => h9) rfl dX7_figure_16 ?_
  refine k_iald (v := (tx pl)) kx hK hP 1 rfl pl rfl (by omega) (by decide) rfl dX7_figure_19 ?_
  refine lv_bipush (v := 48) hx hb dX7_figure_20 (by decide) ?_
  refine lv_isub hx hb dX7_figure_22 ?_
  refine lv_goto (tgt := 28) hx hb dX7_figure_23 (by decide) ?_
  refine lv_istore_n (lv' := [(3, .int ((tx pl) - 48)), (0, .ref h0), (1, .int 0), (2, .int 1)]) hx hb dX7_figure_28 rfl hl (by decide) rfl (fun ls1 hl1 => ?_)
  refine lv_iload_n hx hb dX7_figure_29 rfl (lv_at hl1 0 rfl) ?_
  refine lv_i2l (v := ((tx pl) - 48).toInt64) hx hb dX7_figure_30 rfl ?_
  refine lv_iload_n hx hb dX7_figure_31 rfl (lv_at hl1 2 rfl) ?_
  refine lv_i2l (v := 0) hx hb dX7_figure_32 (by decide +kernel) ?_
  refine lv_iload_n hx hb dX7_figure_33 rfl (lv_at hl1 3 rfl) ?_
  refine lv_i2l (v := 1) hx hb dX7_figure_34 (by decide +kernel) ?_
  refine k_calli (kRunS (As := [.long (((tx pl) - 48).toInt64), .long 0, .long 1]) (rest := []) kx (c_X7_in l G (((tx pl) - 48).toInt64) 0 1) q_740 q_738 q_36 q_739 nX7_in ⟨Nat.le_of_ble_eq_true rfl, Nat.le_of_ble_eq_true rfl⟩ hK hP hD (kCtx_nil _) rfl hl1.1 (Nat.le_of_ble_eq_true rfl) dX7_figure_35 ⟨Nat.zero_le _, Nat.zero_le _⟩) hP hD hS hA (kCtx_nil _) (fun _ => rfl) (fun r2 _ H2 locs2 hw hP2 hD2 hS2 => ?_)
  have hr2 : r_X7_in (((tx pl) - 48).toInt64) 0 1 = r2 := (show r2 = r_X7_in (((tx pl) - 48).toInt64) 0 1 from hw).symm
  have hP3 : va_P G.1 vwCl ([(h0, .inr (7, cM (upd (upd Z 2 (nI L)) 3 (nI pl)) q1 q2 q3 q4 q5 q6 q7 q8 q9 q10 q11 sd)), (q1, .inl (G.2.1, 70, .inl tx))]) H2 := hP2
  have hD4 : va_D A ([(h0, .inr (7, cM (upd (upd Z 2 (nI L)) 3 (nI pl)) q1 q2 q3 q4 q5 q6 q7 q8 q9 q10 q11 sd)), (q1, .inl (G.2.1, 70, .inl tx))]) := hD2
  refine lv_if_ne (x := r2) (tgt := 44) hx hb dX7_figure_38 (by decide) (fun (c3 : ¬ (r2 = 0)) => absurd (hr2.symm.trans hn) c3) (fun (c3 : r2 = 0) => ?_)
  refine lv_bipush (v := (-9)) hx hb dX7_figure_41 (by decide) ?_
  exact k_iret kx hK hP3 hD4 hS2 (u := ()) rfl rfl dX7_figure_43

set_option maxHeartbeats 4000000 in
set_option maxRecDepth 100000 in
theorem c_X7_figure_n2_01 (l : Launch) (G : kG) (Z : Nat → Int32) (L : Nat) (pl : Nat) (sd : Int64) (h0 : Nat) (q1 : Nat) (q2 : Nat) (q3 : Nat) (q4 : Nat) (q5 : Nat) (q6 : Nat) (q7 : Nat) (q8 : Nat) (q9 : Nat) (q10 : Nat) (q11 : Nat) (tx : Nat → Int32) (hL : L ≤ 70) (hp : pl ≤ L) (hq : L ≤ pl) : cG l G yX7_figure cX7_figure 4 (some .int) 1 [.ref h0, .int 0, .int 1] ([(h0, .inr (7, cM (upd (upd Z 2 (nI L)) 3 (nI pl)) q1 q2 q3 q4 q5 q6 q7 q8 q9 q10 q11 sd)), (q1, .inl (G.2.1, 70, .inl tx))]) (qI G (fun (r : Int32) (_ : Unit) => r = (-9)) (fun _ => [(h0, .inr (7, cM (upd (upd Z 2 (nI L)) 3 (nI pl)) q1 q2 q3 q4 q5 q6 q7 q8 q9 q10 q11 sd)), (q1, .inl (G.2.1, 70, .inl tx))])) := by
  refine kintro (by decide) (Nat.le_of_ble_eq_true rfl) ?_
  intro p e s m args below meth c A ls kx hK hP hD hS hA hl
  have kx : kX p s m args meth c cX7_figure 4 (some .int) RX7 := kx
  have hx := kx.1
  have hb := kx.2.1
  have hown := kx.2.2.2.2.1
  have ht := kx.2.2.2.2.2.2
  have hl : lv_has ls 4 [(0, .ref h0), (1, .int 0), (2, .int 1)] := hl
  refine lv_aload_n hx hb dX7_figure_0 rfl (lv_at hl 0 rfl) ?_
  refine va_get (ci := 7) (v := .int (nI pl)) (C := RX7) (T := TX7) (N := 22) hx hb ht inX7 hown hK.1 hP 0 rfl rfl 3 (by decide) (ht _ q_669) (fun _ h9 => h9) rfl dX7_figure_1 ?_
  refine lv_aload_n hx hb dX7_figure_4 rfl (lv_at hl 0 rfl) ?_
  refine va_get (ci := 7) (v := .int (nI L)) (C := RX7) (T := TX7) (N := 22) hx hb ht inX7 hown hK.1 hP 0 rfl rfl 2 (by decide) (ht _ q_668) (fun _ h9 => h9) rfl dX7_figure_5 ?_
  refine lv_icmp_ge (x := nI pl) (y := nI L) (tgt := 26) hx hb dX7_figure_8 (by decide) (fun (c1 : nI L ≤ nI pl) => ?_) (fun (c1 : ¬ (nI L ≤ nI pl)) => absurd (nI_le hq (by omega)) c1)
  refine lv_bipush (v := (-9)) hx hb dX7_figure_26 (by decide) ?_
  refine lv_istore_n (lv' := [(3, .int (-9)), (0, .ref h0), (1, .int 0), (2, .int 1)]) hx hb dX7_figure_28 rfl hl (by decide) rfl (fun ls1 hl1 => ?_)
  refine lv_iload_n hx hb dX7_figure_29 rfl (lv_at hl1 0 rfl) ?_
  refine lv_i2l (v := (-9)) hx hb dX7_figure_30 (by decide +kernel) ?_
  refine lv_iload_n hx hb dX7_figure_31 rfl (lv_at hl1 2 rfl) ?_
  refine lv_i2l (v := 0) hx hb dX7_figure_32 (by decide +kernel) ?_
  refine lv_iload_n hx hb dX7_figure_33 rfl (lv_at hl1 3 rfl) ?_
  refine lv_i2l (v := 1) hx hb dX7_figure_34 (by decide +kernel) ?_
  refine k_calli (kRunS (As := [.long (-9), .long 0, .long 1]) (rest := []) kx (c_X7_in l G (-9) 0 1) q_740 q_738 q_36 q_739 nX7_in ⟨Nat.le_of_ble_eq_true rfl, Nat.le_of_ble_eq_true rfl⟩ hK hP hD (kCtx_nil _) rfl hl1.1 (Nat.le_of_ble_eq_true rfl) dX7_figure_35 ⟨Nat.zero_le _, Nat.zero_le _⟩) hP hD hS hA (kCtx_nil _) (fun _ => rfl) (fun r2 _ H2 locs2 hw hP2 hD2 hS2 => ?_)
  have hr2 : r_X7_in (-9) 0 1 = r2 := (show r2 = r_X7_in (-9) 0 1 from hw).symm
  have hP3 : va_P G.1 vwCl ([(h0, .inr (7, cM (upd (upd Z 2 (nI L)) 3 (nI pl)) q1 q2 q3 q4 q5 q6 q7 q8 q9 q10 q11 sd)), (q1, .inl (G.2.1, 70, .inl tx))]) H2 := hP2
  have hD4 : va_D A ([(h0, .inr (7, cM (upd (upd Z 2 (nI L)) 3 (nI pl)) q1 q2 q3 q4 q5 q6 q7 q8 q9 q10 q11 sd)), (q1, .inl (G.2.1, 70, .inl tx))]) := hD2
  refine lv_if_ne (x := r2) (tgt := 44) hx hb dX7_figure_38 (by decide) (fun (c3 : ¬ (r2 = 0)) => absurd (hr2.symm.trans (kin_neg9 (by decide))) c3) (fun (c3 : r2 = 0) => ?_)
  refine lv_bipush (v := (-9)) hx hb dX7_figure_41 (by decide) ?_
  exact k_iret kx hK hP3 hD4 hS2 (u := ()) rfl rfl dX7_figure_43

set_option maxHeartbeats 4000000 in
theorem c_X7_figure_no_01 (l : Launch) (G : kG) (Z : Nat → Int32) (L : Nat) (pl : Nat) (sd : Int64) (h0 : Nat) (q1 : Nat) (q2 : Nat) (q3 : Nat) (q4 : Nat) (q5 : Nat) (q6 : Nat) (q7 : Nat) (q8 : Nat) (q9 : Nat) (q10 : Nat) (q11 : Nat) (tx : Nat → Int32) (hL : L ≤ 70) (hp : pl ≤ L) (hk : ¬ kfig L tx pl 0 1) : cG l G yX7_figure cX7_figure 4 (some .int) 1 [.ref h0, .int 0, .int 1] ([(h0, .inr (7, cM (upd (upd Z 2 (nI L)) 3 (nI pl)) q1 q2 q3 q4 q5 q6 q7 q8 q9 q10 q11 sd)), (q1, .inl (G.2.1, 70, .inl tx))]) (qI G (fun (r : Int32) (_ : Unit) => r = (-9)) (fun _ => [(h0, .inr (7, cM (upd (upd Z 2 (nI L)) 3 (nI pl)) q1 q2 q3 q4 q5 q6 q7 q8 q9 q10 q11 sd)), (q1, .inl (G.2.1, 70, .inl tx))])) := by
  rcases Nat.lt_or_ge pl L with h | h
  · exact c_X7_figure_n1_01 l G Z L pl sd h0 q1 q2 q3 q4 q5 q6 q7 q8 q9 q10 q11 tx hL h (Decidable.byContradiction (fun q => hk ⟨h, q⟩))
  · exact c_X7_figure_n2_01 l G Z L pl sd h0 q1 q2 q3 q4 q5 q6 q7 q8 q9 q10 q11 tx hL hp h

set_option maxHeartbeats 4000000 in
set_option maxRecDepth 100000 in
theorem c_X7_readEvent_d_ok (l : Launch) (G : kG) (Z : Nat → Int32) (L : Nat) (pl : Nat) (sd : Int64) (h0 : Nat) (q1 : Nat) (q2 : Nat) (q3 : Nat) (q4 : Nat) (q5 : Nat) (q6 : Nat) (q7 : Nat) (q8 : Nat) (q9 : Nat) (q10 : Nat) (q11 : Nat) (tx : Nat → Int32) (hL : L ≤ 70) (hpL : pl < L) (h1 : tx pl = 100) (h3 : kfig L tx (pl + 1) 0 1) : cG l G yX7_readEvent cX7_readEvent 3 (some .int) 2 [.ref h0] ([(h0, .inr (7, cM (upd (upd Z 2 (nI L)) 3 (nI pl)) q1 q2 q3 q4 q5 q6 q7 q8 q9 q10 q11 sd)), (q1, .inl (G.2.1, 70, .inl tx))]) (qI G (fun (r : Int32) (_ : Unit) => r = 10 + ((tx (pl + 1)) - 48)) (fun _ => [(h0, .inr (7, cM (upd (upd Z 2 (nI L)) 3 (nI ((pl + 1) + 1))) q1 q2 q3 q4 q5 q6 q7 q8 q9 q10 q11 sd)), (q1, .inl (G.2.1, 70, .inl tx))])) := by
  refine kintro (by decide) (Nat.le_of_ble_eq_true rfl) ?_
  intro p e s m args below meth c A ls kx hK hP hD hS hA hl
  have kx : kX p s m args meth c cX7_readEvent 3 (some .int) RX7 := kx
  have hx := kx.1
  have hb := kx.2.1
  have hown := kx.2.2.2.2.1
  have ht := kx.2.2.2.2.2.2
  have hl : lv_has ls 3 [(0, .ref h0)] := hl
  refine lv_aload_n hx hb dX7_readEvent_0 rfl (lv_at hl 0 rfl) ?_
  refine va_get (ci := 7) (v := .ref q1) (C := RX7) (T := TX7) (N := 22) hx hb ht inX7 hown hK.1 hP 0 rfl rfl 1 (by decide) (ht _ q_667) (fun _ h9 => h9) rfl dX7_readEvent_1 ?_
  refine lv_aload_n hx hb dX7_readEvent_4 rfl (lv_at hl 0 rfl) ?_
  refine va_get (ci := 7) (v := .int (nI pl)) (C := RX7) (T := TX7) (N := 22) hx hb ht inX7 hown hK.1 hP 0 rfl rfl 3 (by decide) (ht _ q_669) (fun _ h9 => h9) rfl dX7_readEvent_5 ?_
  refine k_iald (v := (tx pl)) kx hK hP 1 rfl pl rfl (by omega) (by decide) rfl dX7_readEvent_8 ?_
  refine lv_bipush (v := 100) hx hb dX7_readEvent_9 (by decide) ?_
  refine lv_icmp_eq (x := tx pl) (y := 100) (tgt := 28) hx hb dX7_readEvent_11 (by decide) (fun (c1 : tx pl = 100) => ?_) (fun (c1 : ¬ (tx pl = 100)) => absurd h1 c1)
  refine lv_aload_n hx hb dX7_readEvent_28 rfl (lv_at hl 0 rfl) ?_
  refine va_get (ci := 7) (v := .ref q1) (C := RX7) (T := TX7) (N := 22) hx hb ht inX7 hown hK.1 hP 0 rfl rfl 1 (by decide) (ht _ q_667) (fun _ h9 => h9) rfl dX7_readEvent_29 ?_
  refine lv_aload_n hx hb dX7_readEvent_32 rfl (lv_at hl 0 rfl) ?_
  refine va_get (ci := 7) (v := .int (nI pl)) (C := RX7) (T := TX7) (N := 22) hx hb ht inX7 hown hK.1 hP 0 rfl rfl 3 (by decide) (ht _ q_669) (fun _ h9 => h9) rfl dX7_readEvent_33 ?_
  refine k_iald (v := (tx pl)) kx hK hP 1 rfl pl rfl (by omega) (by decide) rfl dX7_readEvent_36 ?_
  refine lv_bipush (v := 100) hx hb dX7_readEvent_37 (by decide) ?_
  refine lv_icmp_ne (x := tx pl) (y := 100) (tgt := 47) hx hb dX7_readEvent_39 (by decide) (fun (c2 : ¬ (tx pl = 100)) => absurd h1 c2) (fun (c2 : tx pl = 100) => ?_)
  refine lv_bipush (v := 10) hx hb dX7_readEvent_42 (by decide) ?_
  refine lv_goto (tgt := 49) hx hb dX7_readEvent_44 (by decide) ?_
  refine lv_istore_n (lv' := [(1, .int 10), (0, .ref h0)]) hx hb dX7_readEvent_49 rfl hl (by decide) rfl (fun ls1 hl1 => ?_)
  refine lv_aload_n hx hb dX7_readEvent_50 rfl (lv_at hl1 1 rfl) ?_
  refine lv_dup hx hb dX7_readEvent_51 rfl ?_
  refine va_get (ci := 7) (v := .int (nI pl)) (C := RX7) (T := TX7) (N := 22) hx hb ht inX7 hown hK.1 hP 0 rfl rfl 3 (by decide) (ht _ q_669) (fun _ h9 => h9) rfl dX7_readEvent_52 ?_
  refine lv_iconst (v := 1) hx hb dX7_readEvent_55 (by decide) ?_
  refine lv_iadd hx hb dX7_readEvent_56 ?_
  refine k_top (y := nI (pl + 1)) (nI_1 _) ?_
  refine va_put (ci := 7) (v := .int (nI (pl + 1))) (ty := .int) (C := RX7) (T := TX7) (N := 22) hx hb ht inX7 tyX7 tyX7_ok nmX7 hown hK.1 hP hD hS 0 rfl rfl 3 (by decide) (ht _ q_669) (fun _ h9 => h9) rfl (by decide +kernel) rfl rfl (Nat.le_of_ble_eq_true rfl) dX7_readEvent_57 (fun H2 locs2 hP2 hD2 hS2 => ?_)
  have hP3 : va_P G.1 vwCl ([(h0, .inr (7, cM (upd (upd (upd Z 2 (nI L)) 3 (nI pl)) 3 (nI (pl + 1))) q1 q2 q3 q4 q5 q6 q7 q8 q9 q10 q11 sd)), (q1, .inl (G.2.1, 70, .inl tx))]) H2 := hP2
  have hD4 : va_D A ([(h0, .inr (7, cM (upd (upd (upd Z 2 (nI L)) 3 (nI pl)) 3 (nI (pl + 1))) q1 q2 q3 q4 q5 q6 q7 q8 q9 q10 q11 sd)), (q1, .inl (G.2.1, 70, .inl tx))]) := hD2
  refine lv_aload_n hx hb dX7_readEvent_60 rfl (lv_at hl1 1 rfl) ?_
  refine lv_iconst (v := 0) hx hb dX7_readEvent_61 (by decide) ?_
  refine lv_iconst (v := 1) hx hb dX7_readEvent_62 (by decide) ?_
  refine k_calli (kRunV (As := [.int 0, .int 1]) (rest := []) kx (c_X7_figure_ok_01 l G (upd (upd (upd Z 2 (nI L)) 3 (nI pl)) 3 (nI (pl + 1))) L (pl + 1) sd h0 q1 q2 q3 q4 q5 q6 q7 q8 q9 q10 q11 tx hL h3) q_756 q_753 q_36 q_755 q_14 nX7_figure ⟨Nat.le_of_ble_eq_true rfl, Nat.le_of_ble_eq_true rfl⟩ hK hP3 hD4 (kCtx_all _) 0 7 rfl rfl rfl rfl hl1.1 (Nat.le_of_ble_eq_true rfl) dX7_readEvent_63 ⟨Nat.zero_le _, Nat.zero_le _⟩) hP3 hD4 hS2 hA (kCtx_all _) (fun _ => rfl) (fun r3 _ H5 locs5 hw hP5 hD5 hS5 => ?_)
  have hr3 : (tx (pl + 1)) - 48 = r3 := (show r3 = (tx (pl + 1)) - 48 from hw).symm
  subst hr3
  have hP6 : va_P G.1 vwCl ([(h0, .inr (7, cM (upd (upd Z 2 (nI L)) 3 (nI ((pl + 1) + 1))) q1 q2 q3 q4 q5 q6 q7 q8 q9 q10 q11 sd)), (q1, .inl (G.2.1, 70, .inl tx))]) H5 := hP5
  have hD7 : va_D A ([(h0, .inr (7, cM (upd (upd Z 2 (nI L)) 3 (nI ((pl + 1) + 1))) q1 q2 q3 q4 q5 q6 q7 q8 q9 q10 q11 sd)), (q1, .inl (G.2.1, 70, .inl tx))]) := hD5
  refine lv_istore_n (lv' := [(2, .int ((tx (pl + 1)) - 48)), (1, .int 10), (0, .ref h0)]) hx hb dX7_readEvent_66 rfl hl1 (by decide) rfl (fun ls8 hl8 => ?_)
  refine lv_iload_n hx hb dX7_readEvent_67 rfl (lv_at hl8 0 rfl) ?_
  refine lv_bipush (v := (-9)) hx hb dX7_readEvent_68 (by decide) ?_
  refine lv_icmp_ne (x := (tx (pl + 1)) - 48) (y := (-9)) (tgt := 78) hx hb dX7_readEvent_70 (by decide) (fun (c4 : ¬ ((tx (pl + 1)) - 48 = (-9))) => ?_) (fun (c4 : (tx (pl + 1)) - 48 = (-9)) => absurd c4 (kfig_ne h3 (by decide)))
  refine lv_iload_n hx hb dX7_readEvent_78 rfl (lv_at hl8 1 rfl) ?_
  refine lv_iload_n hx hb dX7_readEvent_79 rfl (lv_at hl8 0 rfl) ?_
  refine lv_iadd hx hb dX7_readEvent_80 ?_
  exact k_iret kx hK hP6 hD7 hS5 (u := ()) rfl rfl dX7_readEvent_81

set_option maxHeartbeats 4000000 in
set_option maxRecDepth 100000 in
theorem c_X7_readEvent_d_no (l : Launch) (G : kG) (Z : Nat → Int32) (L : Nat) (pl : Nat) (sd : Int64) (h0 : Nat) (q1 : Nat) (q2 : Nat) (q3 : Nat) (q4 : Nat) (q5 : Nat) (q6 : Nat) (q7 : Nat) (q8 : Nat) (q9 : Nat) (q10 : Nat) (q11 : Nat) (tx : Nat → Int32) (hL : L ≤ 70) (hpL : pl < L) (h1 : tx pl = 100) (h3 : ¬ kfig L tx (pl + 1) 0 1) : cG l G yX7_readEvent cX7_readEvent 3 (some .int) 2 [.ref h0] ([(h0, .inr (7, cM (upd (upd Z 2 (nI L)) 3 (nI pl)) q1 q2 q3 q4 q5 q6 q7 q8 q9 q10 q11 sd)), (q1, .inl (G.2.1, 70, .inl tx))]) (qI G (fun (r : Int32) (_ : Unit) => r = (-9)) (fun _ => [(h0, .inr (7, cM (upd (upd (upd Z 2 (nI L)) 3 (nI pl)) 3 (nI (pl + 1))) q1 q2 q3 q4 q5 q6 q7 q8 q9 q10 q11 sd)), (q1, .inl (G.2.1, 70, .inl tx))])) := by
  refine kintro (by decide) (Nat.le_of_ble_eq_true rfl) ?_
  intro p e s m args below meth c A ls kx hK hP hD hS hA hl
  have kx : kX p s m args meth c cX7_readEvent 3 (some .int) RX7 := kx
  have hx := kx.1
  have hb := kx.2.1
  have hown := kx.2.2.2.2.1
  have ht := kx.2.2.2.2.2.2
  have hl : lv_has ls 3 [(0, .ref h0)] := hl
  refine lv_aload_n hx hb dX7_readEvent_0 rfl (lv_at hl 0 rfl) ?_
  refine va_get (ci := 7) (v := .ref q1) (C := RX7) (T := TX7) (N := 22) hx hb ht inX7 hown hK.1 hP 0 rfl rfl 1 (by decide) (ht _ q_667) (fun _ h9 => h9) rfl dX7_readEvent_1 ?_
  refine lv_aload_n hx hb dX7_readEvent_4 rfl (lv_at hl 0 rfl) ?_
  refine va_get (ci := 7) (v := .int (nI pl)) (C := RX7) (T := TX7) (N := 22) hx hb ht inX7 hown hK.1 hP 0 rfl rfl 3 (by decide) (ht _ q_669) (fun _ h9 => h9) rfl dX7_readEvent_5 ?_
  refine k_iald (v := (tx pl)) kx hK hP 1 rfl pl rfl (by omega) (by decide) rfl dX7_readEvent_8 ?_
  refine lv_bipush (v := 100) hx hb dX7_readEvent_9 (by decide) ?_
  refine lv_icmp_eq (x := tx pl) (y := 100) (tgt := 28) hx hb dX7_readEvent_11 (by decide) (fun (c1 : tx pl = 100) => ?_) (fun (c1 : ¬ (tx pl = 100)) => absurd h1 c1)
  refine lv_aload_n hx hb dX7_readEvent_28 rfl (lv_at hl 0 rfl) ?_
  refine va_get (ci := 7) (v := .ref q1) (C := RX7) (T := TX7) (N := 22) hx hb ht inX7 hown hK.1 hP 0 rfl rfl 1 (by decide) (ht _ q_667) (fun _ h9 => h9) rfl dX7_readEvent_29 ?_
  refine lv_aload_n hx hb dX7_readEvent_32 rfl (lv_at hl 0 rfl) ?_
  refine va_get (ci := 7) (v := .int (nI pl)) (C := RX7) (T := TX7) (N := 22) hx hb ht inX7 hown hK.1 hP 0 rfl rfl 3 (by decide) (ht _ q_669) (fun _ h9 => h9) rfl dX7_readEvent_33 ?_
  refine k_iald (v := (tx pl)) kx hK hP 1 rfl pl rfl (by omega) (by decide) rfl dX7_readEvent_36 ?_
  refine lv_bipush (v := 100) hx hb dX7_readEvent_37 (by decide) ?_
  refine lv_icmp_ne (x := tx pl) (y := 100) (tgt := 47) hx hb dX7_readEvent_39 (by decide) (fun (c2 : ¬ (tx pl = 100)) => absurd h1 c2) (fun (c2 : tx pl = 100) => ?_)
  refine lv_bipush (v := 10) hx hb dX7_readEvent_42 (by decide) ?_
  refine lv_goto (tgt := 49) hx hb dX7_readEvent_44 (by decide) ?_
  refine lv_istore_n (lv' := [(1, .int 10), (0, .ref h0)]) hx hb dX7_readEvent_49 rfl hl (by decide) rfl (fun ls1 hl1 => ?_)
  refine lv_aload_n hx hb dX7_readEvent_50 rfl (lv_at hl1 1 rfl) ?_
  refine lv_dup hx hb dX7_readEvent_51 rfl ?_
  refine va_get (ci := 7) (v := .int (nI pl)) (C := RX7) (T := TX7) (N := 22) hx hb ht inX7 hown hK.1 hP 0 rfl rfl 3 (by decide) (ht _ q_669) (fun _ h9 => h9) rfl dX7_readEvent_52 ?_
  refine lv_iconst (v := 1) hx hb dX7_readEvent_55 (by decide) ?_
  refine lv_iadd hx hb dX7_readEvent_56 ?_
  refine k_top (y := nI (pl + 1)) (nI_1 _) ?_
  refine va_put (ci := 7) (v := .int (nI (pl + 1))) (ty := .int) (C := RX7) (T := TX7) (N := 22) hx hb ht inX7 tyX7 tyX7_ok nmX7 hown hK.1 hP hD hS 0 rfl rfl 3 (by decide) (ht _ q_669) (fun _ h9 => h9) rfl (by decide +kernel) rfl rfl (Nat.le_of_ble_eq_true rfl) dX7_readEvent_57 (fun H2 locs2 hP2 hD2 hS2 => ?_)
  have hP3 : va_P G.1 vwCl ([(h0, .inr (7, cM (upd (upd (upd Z 2 (nI L)) 3 (nI pl)) 3 (nI (pl + 1))) q1 q2 q3 q4 q5 q6 q7 q8 q9 q10 q11 sd)), (q1, .inl (G.2.1, 70, .inl tx))]) H2 := hP2
  have hD4 : va_D A ([(h0, .inr (7, cM (upd (upd (upd Z 2 (nI L)) 3 (nI pl)) 3 (nI (pl + 1))) q1 q2 q3 q4 q5 q6 q7 q8 q9 q10 q11 sd)), (q1, .inl (G.2.1, 70, .inl tx))]) := hD2
  refine lv_aload_n hx hb dX7_readEvent_60 rfl (lv_at hl1 1 rfl) ?_
  refine lv_iconst (v := 0) hx hb dX7_readEvent_61 (by decide) ?_
  refine lv_iconst (v := 1) hx hb dX7_readEvent_62 (by decide) ?_
  refine k_calli (kRunV (As := [.int 0, .int 1]) (rest := []) kx (c_X7_figure_no_01 l G (upd (upd (upd Z 2 (nI L)) 3 (nI pl)) 3 (nI (pl + 1))) L (pl + 1) sd h0 q1 q2 q3 q4 q5 q6 q7 q8 q9 q10 q11 tx hL (by omega) h3) q_756 q_753 q_36 q_755 q_14 nX7_figure ⟨Nat.le_of_ble_eq_true rfl, Nat.le_of_ble_eq_true rfl⟩ hK hP3 hD4 (kCtx_all _) 0 7 rfl rfl rfl rfl hl1.1 (Nat.le_of_ble_eq_true rfl) dX7_readEvent_63 ⟨Nat.zero_le _, Nat.zero_le _⟩) hP3 hD4 hS2 hA (kCtx_all _) (fun _ => rfl) (fun r3 _ H5 locs5 hw hP5 hD5 hS5 => ?_)
  have hr3 : (-9) = r3 := (show r3 = (-9) from hw).symm
  subst hr3
  have hP6 : va_P G.1 vwCl ([(h0, .inr (7, cM (upd (upd (upd Z 2 (nI L)) 3 (nI pl)) 3 (nI (pl + 1))) q1 q2 q3 q4 q5 q6 q7 q8 q9 q10 q11 sd)), (q1, .inl (G.2.1, 70, .inl tx))]) H5 := hP5
  have hD7 : va_D A ([(h0, .inr (7, cM (upd (upd (upd Z 2 (nI L)) 3 (nI pl)) 3 (nI (pl + 1))) q1 q2 q3 q4 q5 q6 q7 q8 q9 q10 q11 sd)), (q1, .inl (G.2.1, 70, .inl tx))]) := hD5
  refine lv_istore_n (lv' := [(2, .int (-9)), (1, .int 10), (0, .ref h0)]) hx hb dX7_readEvent_66 rfl hl1 (by decide) rfl (fun ls8 hl8 => ?_)
  refine lv_iload_n hx hb dX7_readEvent_67 rfl (lv_at hl8 0 rfl) ?_
  refine lv_bipush (v := (-9)) hx hb dX7_readEvent_68 (by decide) ?_
  refine lv_icmp_ne (x := (-9)) (y := (-9)) (tgt := 78) hx hb dX7_readEvent_70 (by decide) (fun (c4 : ¬ ((-9) = (-9))) => absurd (by decide) c4) (fun (c4 : (-9) = (-9)) => ?_)
  refine lv_bipush (v := (-9)) hx hb dX7_readEvent_73 (by decide) ?_
  refine lv_goto (tgt := 81) hx hb dX7_readEvent_75 (by decide) ?_
  exact k_iret kx hK hP6 hD7 hS5 (u := ()) rfl rfl dX7_readEvent_81

set_option maxHeartbeats 4000000 in
set_option maxRecDepth 100000 in
theorem c_X7_readEvent_w_ok (l : Launch) (G : kG) (Z : Nat → Int32) (L : Nat) (pl : Nat) (sd : Int64) (h0 : Nat) (q1 : Nat) (q2 : Nat) (q3 : Nat) (q4 : Nat) (q5 : Nat) (q6 : Nat) (q7 : Nat) (q8 : Nat) (q9 : Nat) (q10 : Nat) (q11 : Nat) (tx : Nat → Int32) (hL : L ≤ 70) (hpL : pl < L) (h1 : ¬ tx pl = 100) (h2 : tx pl = 119) (h3 : kfig L tx (pl + 1) 0 1) : cG l G yX7_readEvent cX7_readEvent 3 (some .int) 2 [.ref h0] ([(h0, .inr (7, cM (upd (upd Z 2 (nI L)) 3 (nI pl)) q1 q2 q3 q4 q5 q6 q7 q8 q9 q10 q11 sd)), (q1, .inl (G.2.1, 70, .inl tx))]) (qI G (fun (r : Int32) (_ : Unit) => r = 20 + ((tx (pl + 1)) - 48)) (fun _ => [(h0, .inr (7, cM (upd (upd Z 2 (nI L)) 3 (nI ((pl + 1) + 1))) q1 q2 q3 q4 q5 q6 q7 q8 q9 q10 q11 sd)), (q1, .inl (G.2.1, 70, .inl tx))])) := by
  refine kintro (by decide) (Nat.le_of_ble_eq_true rfl) ?_
  intro p e s m args below meth c A ls kx hK hP hD hS hA hl
  have kx : kX p s m args meth c cX7_readEvent 3 (some .int) RX7 := kx
  have hx := kx.1
  have hb := kx.2.1
  have hown := kx.2.2.2.2.1
  have ht := kx.2.2.2.2.2.2
  have hl : lv_has ls 3 [(0, .ref h0)] := hl
  refine lv_aload_n hx hb dX7_readEvent_0 rfl (lv_at hl 0 rfl) ?_
  refine va_get (ci := 7) (v := .ref q1) (C := RX7) (T := TX7) (N := 22) hx hb ht inX7 hown hK.1 hP 0 rfl rfl 1 (by decide) (ht _ q_667) (fun _ h9 => h9) rfl dX7_readEvent_1 ?_
  refine lv_aload_n hx hb dX7_readEvent_4 rfl (lv_at hl 0 rfl) ?_
  refine va_get (ci := 7) (v := .int (nI pl)) (C := RX7) (T := TX7) (N := 22) hx hb ht inX7 hown hK.1 hP 0 rfl rfl 3 (by decide) (ht _ q_669) (fun _ h9 => h9) rfl dX7_readEvent_5 ?_
  refine k_iald (v := (tx pl)) kx hK hP 1 rfl pl rfl (by omega) (by decide) rfl dX7_readEvent_8 ?_
  refine lv_bipush (v := 100) hx hb dX7_readEvent_9 (by decide) ?_
  refine lv_icmp_eq (x := tx pl) (y := 100) (tgt := 28) hx hb dX7_readEvent_11 (by decide) (fun (c1 : tx pl = 100) => absurd c1 h1) (fun (c1 : ¬ (tx pl = 100)) => ?_)
  refine lv_aload_n hx hb dX7_readEvent_14 rfl (lv_at hl 0 rfl) ?_
  refine va_get (ci := 7) (v := .ref q1) (C := RX7) (T := TX7) (N := 22) hx hb ht inX7 hown hK.1 hP 0 rfl rfl 1 (by decide) (ht _ q_667) (fun _ h9 => h9) rfl dX7_readEvent_15 ?_
  refine lv_aload_n hx hb dX7_readEvent_18 rfl (lv_at hl 0 rfl) ?_
  refine va_get (ci := 7) (v := .int (nI pl)) (C := RX7) (T := TX7) (N := 22) hx hb ht inX7 hown hK.1 hP 0 rfl rfl 3 (by decide) (ht _ q_669) (fun _ h9 => h9) rfl dX7_readEvent_19 ?_
  refine k_iald (v := (tx pl)) kx hK hP 1 rfl pl rfl (by omega) (by decide) rfl dX7_readEvent_22 ?_
  refine lv_bipush (v := 119) hx hb dX7_readEvent_23 (by decide) ?_
  refine lv_icmp_ne (x := tx pl) (y := 119) (tgt := 82) hx hb dX7_readEvent_25 (by decide) (fun (c2 : ¬ (tx pl = 119)) => absurd h2 c2) (fun (c2 : tx pl = 119) => ?_)
  refine lv_aload_n hx hb dX7_readEvent_28 rfl (lv_at hl 0 rfl) ?_
  refine va_get (ci := 7) (v := .ref q1) (C := RX7) (T := TX7) (N := 22) hx hb ht inX7 hown hK.1 hP 0 rfl rfl 1 (by decide) (ht _ q_667) (fun _ h9 => h9) rfl dX7_readEvent_29 ?_
  refine lv_aload_n hx hb dX7_readEvent_32 rfl (lv_at hl 0 rfl) ?_
  refine va_get (ci := 7) (v := .int (nI pl)) (C := RX7) (T := TX7) (N := 22) hx hb ht inX7 hown hK.1 hP 0 rfl rfl 3 (by decide) (ht _ q_669) (fun _ h9 => h9) rfl dX7_readEvent_33 ?_
  refine k_iald (v := (tx pl)) kx hK hP 1 rfl pl rfl (by omega) (by decide) rfl dX7_readEvent_36 ?_
  refine lv_bipush (v := 100) hx hb dX7_readEvent_37 (by decide) ?_
  refine lv_icmp_ne (x := tx pl) (y := 100) (tgt := 47) hx hb dX7_readEvent_39 (by decide) (fun (c3 : ¬ (tx pl = 100)) => ?_) (fun (c3 : tx pl = 100) => absurd c3 h1)
  refine lv_bipush (v := 20) hx hb dX7_readEvent_47 (by decide) ?_
  refine lv_istore_n (lv' := [(1, .int 20), (0, .ref h0)]) hx hb dX7_readEvent_49 rfl hl (by decide) rfl (fun ls1 hl1 => ?_)
  refine lv_aload_n hx hb dX7_readEvent_50 rfl (lv_at hl1 1 rfl) ?_
  refine lv_dup hx hb dX7_readEvent_51 rfl ?_
  refine va_get (ci := 7) (v := .int (nI pl)) (C := RX7) (T := TX7) (N := 22) hx hb ht inX7 hown hK.1 hP 0 rfl rfl 3 (by decide) (ht _ q_669) (fun _ h9 => h9) rfl dX7_readEvent_52 ?_
  refine lv_iconst (v := 1) hx hb dX7_readEvent_55 (by decide) ?_
  refine lv_iadd hx hb dX7_readEvent_56 ?_
  refine k_top (y := nI (pl + 1)) (nI_1 _) ?_
  refine va_put (ci := 7) (v := .int (nI (pl + 1))) (ty := .int) (C := RX7) (T := TX7) (N := 22) hx hb ht inX7 tyX7 tyX7_ok nmX7 hown hK.1 hP hD hS 0 rfl rfl 3 (by decide) (ht _ q_669) (fun _ h9 => h9) rfl (by decide +kernel) rfl rfl (Nat.le_of_ble_eq_true rfl) dX7_readEvent_57 (fun H2 locs2 hP2 hD2 hS2 => ?_)
  have hP3 : va_P G.1 vwCl ([(h0, .inr (7, cM (upd (upd (upd Z 2 (nI L)) 3 (nI pl)) 3 (nI (pl + 1))) q1 q2 q3 q4 q5 q6 q7 q8 q9 q10 q11 sd)), (q1, .inl (G.2.1, 70, .inl tx))]) H2 := hP2
  have hD4 : va_D A ([(h0, .inr (7, cM (upd (upd (upd Z 2 (nI L)) 3 (nI pl)) 3 (nI (pl + 1))) q1 q2 q3 q4 q5 q6 q7 q8 q9 q10 q11 sd)), (q1, .inl (G.2.1, 70, .inl tx))]) := hD2
  refine lv_aload_n hx hb dX7_readEvent_60 rfl (lv_at hl1 1 rfl) ?_
  refine lv_iconst (v := 0) hx hb dX7_readEvent_61 (by decide) ?_
  refine lv_iconst (v := 1) hx hb dX7_readEvent_62 (by decide) ?_
  refine k_calli (kRunV (As := [.int 0, .int 1]) (rest := []) kx (c_X7_figure_ok_01 l G (upd (upd (upd Z 2 (nI L)) 3 (nI pl)) 3 (nI (pl + 1))) L (pl + 1) sd h0 q1 q2 q3 q4 q5 q6 q7 q8 q9 q10 q11 tx hL h3) q_756 q_753 q_36 q_755 q_14 nX7_figure ⟨Nat.le_of_ble_eq_true rfl, Nat.le_of_ble_eq_true rfl⟩ hK hP3 hD4 (kCtx_all _) 0 7 rfl rfl rfl rfl hl1.1 (Nat.le_of_ble_eq_true rfl) dX7_readEvent_63 ⟨Nat.zero_le _, Nat.zero_le _⟩) hP3 hD4 hS2 hA (kCtx_all _) (fun _ => rfl) (fun r4 _ H5 locs5 hw hP5 hD5 hS5 => ?_)
  have hr4 : (tx (pl + 1)) - 48 = r4 := (show r4 = (tx (pl + 1)) - 48 from hw).symm
  subst hr4
  have hP6 : va_P G.1 vwCl ([(h0, .inr (7, cM (upd (upd Z 2 (nI L)) 3 (nI ((pl + 1) + 1))) q1 q2 q3 q4 q5 q6 q7 q8 q9 q10 q11 sd)), (q1, .inl (G.2.1, 70, .inl tx))]) H5 := hP5
  have hD7 : va_D A ([(h0, .inr (7, cM (upd (upd Z 2 (nI L)) 3 (nI ((pl + 1) + 1))) q1 q2 q3 q4 q5 q6 q7 q8 q9 q10 q11 sd)), (q1, .inl (G.2.1, 70, .inl tx))]) := hD5
  refine lv_istore_n (lv' := [(2, .int ((tx (pl + 1)) - 48)), (1, .int 20), (0, .ref h0)]) hx hb dX7_readEvent_66 rfl hl1 (by decide) rfl (fun ls8 hl8 => ?_)
  refine lv_iload_n hx hb dX7_readEvent_67 rfl (lv_at hl8 0 rfl) ?_
  refine lv_bipush (v := (-9)) hx hb dX7_readEvent_68 (by decide) ?_
  refine lv_icmp_ne (x := (tx (pl + 1)) - 48) (y := (-9)) (tgt := 78) hx hb dX7_readEvent_70 (by decide) (fun (c5 : ¬ ((tx (pl + 1)) - 48 = (-9))) => ?_) (fun (c5 : (tx (pl + 1)) - 48 = (-9)) => absurd c5 (kfig_ne h3 (by decide)))
  refine lv_iload_n hx hb dX7_readEvent_78 rfl (lv_at hl8 1 rfl) ?_
  refine lv_iload_n hx hb dX7_readEvent_79 rfl (lv_at hl8 0 rfl) ?_
  refine lv_iadd hx hb dX7_readEvent_80 ?_
  exact k_iret kx hK hP6 hD7 hS5 (u := ()) rfl rfl dX7_readEvent_81

set_option maxHeartbeats 4000000 in
set_option maxRecDepth 100000 in
theorem c_X7_readEvent_w_no (l : Launch) (G : kG) (Z : Nat → Int32) (L : Nat) (pl : Nat) (sd : Int64) (h0 : Nat) (q1 : Nat) (q2 : Nat) (q3 : Nat) (q4 : Nat) (q5 : Nat) (q6 : Nat) (q7 : Nat) (q8 : Nat) (q9 : Nat) (q10 : Nat) (q11 : Nat) (tx : Nat → Int32) (hL : L ≤ 70) (hpL : pl < L) (h1 : ¬ tx pl = 100) (h2 : tx pl = 119) (h3 : ¬ kfig L tx (pl + 1) 0 1) : cG l G yX7_readEvent cX7_readEvent 3 (some .int) 2 [.ref h0] ([(h0, .inr (7, cM (upd (upd Z 2 (nI L)) 3 (nI pl)) q1 q2 q3 q4 q5 q6 q7 q8 q9 q10 q11 sd)), (q1, .inl (G.2.1, 70, .inl tx))]) (qI G (fun (r : Int32) (_ : Unit) => r = (-9)) (fun _ => [(h0, .inr (7, cM (upd (upd (upd Z 2 (nI L)) 3 (nI pl)) 3 (nI (pl + 1))) q1 q2 q3 q4 q5 q6 q7 q8 q9 q10 q11 sd)), (q1, .inl (G.2.1, 70, .inl tx))])) := by
  refine kintro (by decide) (Nat.le_of_ble_eq_true rfl) ?_
  intro p e s m args below meth c A ls kx hK hP hD hS hA hl
  have kx : kX p s m args meth c cX7_readEvent 3 (some .int) RX7 := kx
  have hx := kx.1
  have hb := kx.2.1
  have hown := kx.2.2.2.2.1
  have ht := kx.2.2.2.2.2.2
  have hl : lv_has ls 3 [(0, .ref h0)] := hl
  refine lv_aload_n hx hb dX7_readEvent_0 rfl (lv_at hl 0 rfl) ?_
  refine va_get (ci := 7) (v := .ref q1) (C := RX7) (T := TX7) (N := 22) hx hb ht inX7 hown hK.1 hP 0 rfl rfl 1 (by decide) (ht _ q_667) (fun _ h9 => h9) rfl dX7_readEvent_1 ?_
  refine lv_aload_n hx hb dX7_readEvent_4 rfl (lv_at hl 0 rfl) ?_
  refine va_get (ci := 7) (v := .int (nI pl)) (C := RX7) (T := TX7) (N := 22) hx hb ht inX7 hown hK.1 hP 0 rfl rfl 3 (by decide) (ht _ q_669) (fun _ h9 => h9) rfl dX7_readEvent_5 ?_
  refine k_iald (v := (tx pl)) kx hK hP 1 rfl pl rfl (by omega) (by decide) rfl dX7_readEvent_8 ?_
  refine lv_bipush (v := 100) hx hb dX7_readEvent_9 (by decide) ?_
  refine lv_icmp_eq (x := tx pl) (y := 100) (tgt := 28) hx hb dX7_readEvent_11 (by decide) (fun (c1 : tx pl = 100) => absurd c1 h1) (fun (c1 : ¬ (tx pl = 100)) => ?_)
  refine lv_aload_n hx hb dX7_readEvent_14 rfl (lv_at hl 0 rfl) ?_
  refine va_get (ci := 7) (v := .ref q1) (C := RX7) (T := TX7) (N := 22) hx hb ht inX7 hown hK.1 hP 0 rfl rfl 1 (by decide) (ht _ q_667) (fun _ h9 => h9) rfl dX7_readEvent_15 ?_
  refine lv_aload_n hx hb dX7_readEvent_18 rfl (lv_at hl 0 rfl) ?_
  refine va_get (ci := 7) (v := .int (nI pl)) (C := RX7) (T := TX7) (N := 22) hx hb ht inX7 hown hK.1 hP 0 rfl rfl 3 (by decide) (ht _ q_669) (fun _ h9 => h9) rfl dX7_readEvent_19 ?_
  refine k_iald (v := (tx pl)) kx hK hP 1 rfl pl rfl (by omega) (by decide) rfl dX7_readEvent_22 ?_
  refine lv_bipush (v := 119) hx hb dX7_readEvent_23 (by decide) ?_
  refine lv_icmp_ne (x := tx pl) (y := 119) (tgt := 82) hx hb dX7_readEvent_25 (by decide) (fun (c2 : ¬ (tx pl = 119)) => absurd h2 c2) (fun (c2 : tx pl = 119) => ?_)
  refine lv_aload_n hx hb dX7_readEvent_28 rfl (lv_at hl 0 rfl) ?_
  refine va_get (ci := 7) (v := .ref q1) (C := RX7) (T := TX7) (N := 22) hx hb ht inX7 hown hK.1 hP 0 rfl rfl 1 (by decide) (ht _ q_667) (fun _ h9 => h9) rfl dX7_readEvent_29 ?_
  refine lv_aload_n hx hb dX7_readEvent_32 rfl (lv_at hl 0 rfl) ?_
  refine va_get (ci := 7) (v := .int (nI pl)) (C := RX7) (T := TX7) (N := 22) hx hb ht inX7 hown hK.1 hP 0 rfl rfl 3 (by decide) (ht _ q_669) (fun _ h9 => h9) rfl dX7_readEvent_33 ?_
  refine k_iald (v := (tx pl)) kx hK hP 1 rfl pl rfl (by omega) (by decide) rfl dX7_readEvent_36 ?_
  refine lv_bipush (v := 100) hx hb dX7_readEvent_37 (by decide) ?_
  refine lv_icmp_ne (x := tx pl) (y := 100) (tgt := 47) hx hb dX7_readEvent_39 (by decide) (fun (c3 : ¬ (tx pl = 100)) => ?_) (fun (c3 : tx pl = 100) => absurd c3 h1)
  refine lv_bipush (v := 20) hx hb dX7_readEvent_47 (by decide) ?_
  refine lv_istore_n (lv' := [(1, .int 20), (0, .ref h0)]) hx hb dX7_readEvent_49 rfl hl (by decide) rfl (fun ls1 hl1 => ?_)
  refine lv_aload_n hx hb dX7_readEvent_50 rfl (lv_at hl1 1 rfl) ?_
  refine lv_dup hx hb dX7_readEvent_51 rfl ?_
  refine va_get (ci := 7) (v := .int (nI pl)) (C := RX7) (T := TX7) (N := 22) hx hb ht inX7 hown hK.1 hP 0 rfl rfl 3 (by decide) (ht _ q_669) (fun _ h9 => h9) rfl dX7_readEvent_52 ?_
  refine lv_iconst (v := 1) hx hb dX7_readEvent_55 (by decide) ?_
  refine lv_iadd hx hb dX7_readEvent_56 ?_
  refine k_top (y := nI (pl + 1)) (nI_1 _) ?_
  refine va_put (ci := 7) (v := .int (nI (pl + 1))) (ty := .int) (C := RX7) (T := TX7) (N := 22) hx hb ht inX7 tyX7 tyX7_ok nmX7 hown hK.1 hP hD hS 0 rfl rfl 3 (by decide) (ht _ q_669) (fun _ h9 => h9) rfl (by decide +kernel) rfl rfl (Nat.le_of_ble_eq_true rfl) dX7_readEvent_57 (fun H2 locs2 hP2 hD2 hS2 => ?_)
  have hP3 : va_P G.1 vwCl ([(h0, .inr (7, cM (upd (upd (upd Z 2 (nI L)) 3 (nI pl)) 3 (nI (pl + 1))) q1 q2 q3 q4 q5 q6 q7 q8 q9 q10 q11 sd)), (q1, .inl (G.2.1, 70, .inl tx))]) H2 := hP2
  have hD4 : va_D A ([(h0, .inr (7, cM (upd (upd (upd Z 2 (nI L)) 3 (nI pl)) 3 (nI (pl + 1))) q1 q2 q3 q4 q5 q6 q7 q8 q9 q10 q11 sd)), (q1, .inl (G.2.1, 70, .inl tx))]) := hD2
  refine lv_aload_n hx hb dX7_readEvent_60 rfl (lv_at hl1 1 rfl) ?_
  refine lv_iconst (v := 0) hx hb dX7_readEvent_61 (by decide) ?_
  refine lv_iconst (v := 1) hx hb dX7_readEvent_62 (by decide) ?_
  refine k_calli (kRunV (As := [.int 0, .int 1]) (rest := []) kx (c_X7_figure_no_01 l G (upd (upd (upd Z 2 (nI L)) 3 (nI pl)) 3 (nI (pl + 1))) L (pl + 1) sd h0 q1 q2 q3 q4 q5 q6 q7 q8 q9 q10 q11 tx hL (by omega) h3) q_756 q_753 q_36 q_755 q_14 nX7_figure ⟨Nat.le_of_ble_eq_true rfl, Nat.le_of_ble_eq_true rfl⟩ hK hP3 hD4 (kCtx_all _) 0 7 rfl rfl rfl rfl hl1.1 (Nat.le_of_ble_eq_true rfl) dX7_readEvent_63 ⟨Nat.zero_le _, Nat.zero_le _⟩) hP3 hD4 hS2 hA (kCtx_all _) (fun _ => rfl) (fun r4 _ H5 locs5 hw hP5 hD5 hS5 => ?_)
  have hr4 : (-9) = r4 := (show r4 = (-9) from hw).symm
  subst hr4
  have hP6 : va_P G.1 vwCl ([(h0, .inr (7, cM (upd (upd (upd Z 2 (nI L)) 3 (nI pl)) 3 (nI (pl + 1))) q1 q2 q3 q4 q5 q6 q7 q8 q9 q10 q11 sd)), (q1, .inl (G.2.1, 70, .inl tx))]) H5 := hP5
  have hD7 : va_D A ([(h0, .inr (7, cM (upd (upd (upd Z 2 (nI L)) 3 (nI pl)) 3 (nI (pl + 1))) q1 q2 q3 q4 q5 q6 q7 q8 q9 q10 q11 sd)), (q1, .inl (G.2.1, 70, .inl tx))]) := hD5
  refine lv_istore_n (lv' := [(2, .int (-9)), (1, .int 20), (0, .ref h0)]) hx hb dX7_readEvent_66 rfl hl1 (by decide) rfl (fun ls8 hl8 => ?_)
  refine lv_iload_n hx hb dX7_readEvent_67 rfl (lv_at hl8 0 rfl) ?_
  refine lv_bipush (v := (-9)) hx hb dX7_readEvent_68 (by decide) ?_
  refine lv_icmp_ne (x := (-9)) (y := (-9)) (tgt := 78) hx hb dX7_readEvent_70 (by decide) (fun (c5 : ¬ ((-9) = (-9))) => absurd (by decide) c5) (fun (c5 : (-9) = (-9)) => ?_)
  refine lv_bipush (v := (-9)) hx hb dX7_readEvent_73 (by decide) ?_
  refine lv_goto (tgt := 81) hx hb dX7_readEvent_75 (by decide) ?_
  exact k_iret kx hK hP6 hD7 hS5 (u := ()) rfl rfl dX7_readEvent_81

set_option maxHeartbeats 4000000 in
set_option maxRecDepth 100000 in
theorem c_X7_readEvent_f_ok (l : Launch) (G : kG) (Z : Nat → Int32) (L : Nat) (pl : Nat) (sd : Int64) (h0 : Nat) (q1 : Nat) (q2 : Nat) (q3 : Nat) (q4 : Nat) (q5 : Nat) (q6 : Nat) (q7 : Nat) (q8 : Nat) (q9 : Nat) (q10 : Nat) (q11 : Nat) (tx : Nat → Int32) (hL : L ≤ 70) (hpL : pl < L) (h1 : ¬ tx pl = 100) (h2 : ¬ tx pl = 119) (h3 : kfig L tx pl 1 9) : cG l G yX7_readEvent cX7_readEvent 3 (some .int) 2 [.ref h0] ([(h0, .inr (7, cM (upd (upd Z 2 (nI L)) 3 (nI pl)) q1 q2 q3 q4 q5 q6 q7 q8 q9 q10 q11 sd)), (q1, .inl (G.2.1, 70, .inl tx))]) (qI G (fun (r : Int32) (_ : Unit) => r = (tx pl) - 48) (fun _ => [(h0, .inr (7, cM (upd (upd Z 2 (nI L)) 3 (nI (pl + 1))) q1 q2 q3 q4 q5 q6 q7 q8 q9 q10 q11 sd)), (q1, .inl (G.2.1, 70, .inl tx))])) := by
  refine kintro (by decide) (Nat.le_of_ble_eq_true rfl) ?_
  intro p e s m args below meth c A ls kx hK hP hD hS hA hl
  have kx : kX p s m args meth c cX7_readEvent 3 (some .int) RX7 := kx
  have hx := kx.1
  have hb := kx.2.1
  have hown := kx.2.2.2.2.1
  have ht := kx.2.2.2.2.2.2
  have hl : lv_has ls 3 [(0, .ref h0)] := hl
  refine lv_aload_n hx hb dX7_readEvent_0 rfl (lv_at hl 0 rfl) ?_
  refine va_get (ci := 7) (v := .ref q1) (C := RX7) (T := TX7) (N := 22) hx hb ht inX7 hown hK.1 hP 0 rfl rfl 1 (by decide) (ht _ q_667) (fun _ h9 => h9) rfl dX7_readEvent_1 ?_
  refine lv_aload_n hx hb dX7_readEvent_4 rfl (lv_at hl 0 rfl) ?_
  refine va_get (ci := 7) (v := .int (nI pl)) (C := RX7) (T := TX7) (N := 22) hx hb ht inX7 hown hK.1 hP 0 rfl rfl 3 (by decide) (ht _ q_669) (fun _ h9 => h9) rfl dX7_readEvent_5 ?_
  refine k_iald (v := (tx pl)) kx hK hP 1 rfl pl rfl (by omega) (by decide) rfl dX7_readEvent_8 ?_
  refine lv_bipush (v := 100) hx hb dX7_readEvent_9 (by decide) ?_
  refine lv_icmp_eq (x := tx pl) (y := 100) (tgt := 28) hx hb dX7_readEvent_11 (by decide) (fun (c1 : tx pl = 100) => absurd c1 h1) (fun (c1 : ¬ (tx pl = 100)) => ?_)
  refine lv_aload_n hx hb dX7_readEvent_14 rfl (lv_at hl 0 rfl) ?_
  refine va_get (ci := 7) (v := .ref q1) (C := RX7) (T := TX7) (N := 22) hx hb ht inX7 hown hK.1 hP 0 rfl rfl 1 (by decide) (ht _ q_667) (fun _ h9 => h9) rfl dX7_readEvent_15 ?_
  refine lv_aload_n hx hb dX7_readEvent_18 rfl (lv_at hl 0 rfl) ?_
  refine va_get (ci := 7) (v := .int (nI pl)) (C := RX7) (T := TX7) (N := 22) hx hb ht inX7 hown hK.1 hP 0 rfl rfl 3 (by decide) (ht _ q_669) (fun _ h9 => h9) rfl dX7_readEvent_19 ?_
  refine k_iald (v := (tx pl)) kx hK hP 1 rfl pl rfl (by omega) (by decide) rfl dX7_readEvent_22 ?_
  refine lv_bipush (v := 119) hx hb dX7_readEvent_23 (by decide) ?_
  refine lv_icmp_ne (x := tx pl) (y := 119) (tgt := 82) hx hb dX7_readEvent_25 (by decide) (fun (c2 : ¬ (tx pl = 119)) => ?_) (fun (c2 : tx pl = 119) => absurd c2 h2)
  refine lv_aload_n hx hb dX7_readEvent_82 rfl (lv_at hl 0 rfl) ?_
  refine lv_iconst (v := 1) hx hb dX7_readEvent_83 (by decide) ?_
  refine lv_bipush (v := 9) hx hb dX7_readEvent_84 (by decide) ?_
  refine k_calli (kRunV (As := [.int 1, .int 9]) (rest := []) kx (c_X7_figure_ok_19 l G (upd (upd Z 2 (nI L)) 3 (nI pl)) L pl sd h0 q1 q2 q3 q4 q5 q6 q7 q8 q9 q10 q11 tx hL h3) q_756 q_753 q_36 q_755 q_14 nX7_figure ⟨Nat.le_of_ble_eq_true rfl, Nat.le_of_ble_eq_true rfl⟩ hK hP hD (kCtx_all _) 0 7 rfl rfl rfl rfl hl.1 (Nat.le_of_ble_eq_true rfl) dX7_readEvent_86 ⟨Nat.zero_le _, Nat.zero_le _⟩) hP hD hS hA (kCtx_all _) (fun _ => rfl) (fun r3 _ H1 locs1 hw hP1 hD1 hS1 => ?_)
  have hr3 : (tx pl) - 48 = r3 := (show r3 = (tx pl) - 48 from hw).symm
  subst hr3
  have hP2 : va_P G.1 vwCl ([(h0, .inr (7, cM (upd (upd Z 2 (nI L)) 3 (nI (pl + 1))) q1 q2 q3 q4 q5 q6 q7 q8 q9 q10 q11 sd)), (q1, .inl (G.2.1, 70, .inl tx))]) H1 := hP1
  have hD3 : va_D A ([(h0, .inr (7, cM (upd (upd Z 2 (nI L)) 3 (nI (pl + 1))) q1 q2 q3 q4 q5 q6 q7 q8 q9 q10 q11 sd)), (q1, .inl (G.2.1, 70, .inl tx))]) := hD1
  exact k_iret kx hK hP2 hD3 hS1 (u := ()) rfl rfl dX7_readEvent_89

set_option maxHeartbeats 4000000 in
set_option maxRecDepth 100000 in
theorem c_X7_readEvent_f_no (l : Launch) (G : kG) (Z : Nat → Int32) (L : Nat) (pl : Nat) (sd : Int64) (h0 : Nat) (q1 : Nat) (q2 : Nat) (q3 : Nat) (q4 : Nat) (q5 : Nat) (q6 : Nat) (q7 : Nat) (q8 : Nat) (q9 : Nat) (q10 : Nat) (q11 : Nat) (tx : Nat → Int32) (hL : L ≤ 70) (hpL : pl < L) (h1 : ¬ tx pl = 100) (h2 : ¬ tx pl = 119) (h3 : ¬ kfig L tx pl 1 9) : cG l G yX7_readEvent cX7_readEvent 3 (some .int) 2 [.ref h0] ([(h0, .inr (7, cM (upd (upd Z 2 (nI L)) 3 (nI pl)) q1 q2 q3 q4 q5 q6 q7 q8 q9 q10 q11 sd)), (q1, .inl (G.2.1, 70, .inl tx))]) (qI G (fun (r : Int32) (_ : Unit) => r = (-9)) (fun _ => [(h0, .inr (7, cM (upd (upd Z 2 (nI L)) 3 (nI pl)) q1 q2 q3 q4 q5 q6 q7 q8 q9 q10 q11 sd)), (q1, .inl (G.2.1, 70, .inl tx))])) := by
  refine kintro (by decide) (Nat.le_of_ble_eq_true rfl) ?_
  intro p e s m args below meth c A ls kx hK hP hD hS hA hl
  have kx : kX p s m args meth c cX7_readEvent 3 (some .int) RX7 := kx
  have hx := kx.1
  have hb := kx.2.1
  have hown := kx.2.2.2.2.1
  have ht := kx.2.2.2.2.2.2
  have hl : lv_has ls 3 [(0, .ref h0)] := hl
  refine lv_aload_n hx hb dX7_readEvent_0 rfl (lv_at hl 0 rfl) ?_
  refine va_get (ci := 7) (v := .ref q1) (C := RX7) (T := TX7) (N := 22) hx hb ht inX7 hown hK.1 hP 0 rfl rfl 1 (by decide) (ht _ q_667) (fun _ h9 => h9) rfl dX7_readEvent_1 ?_
  refine lv_aload_n hx hb dX7_readEvent_4 rfl (lv_at hl 0 rfl) ?_
  refine va_get (ci := 7) (v := .int (nI pl)) (C := RX7) (T := TX7) (N := 22) hx hb ht inX7 hown hK.1 hP 0 rfl rfl 3 (by decide) (ht _ q_669) (fun _ h9 => h9) rfl dX7_readEvent_5 ?_
  refine k_iald (v := (tx pl)) kx hK hP 1 rfl pl rfl (by omega) (by decide) rfl dX7_readEvent_8 ?_
  refine lv_bipush (v := 100) hx hb dX7_readEvent_9 (by decide) ?_
  refine lv_icmp_eq (x := tx pl) (y := 100) (tgt := 28) hx hb dX7_readEvent_11 (by decide) (fun (c1 : tx pl = 100) => absurd c1 h1) (fun (c1 : ¬ (tx pl = 100)) => ?_)
  refine lv_aload_n hx hb dX7_readEvent_14 rfl (lv_at hl 0 rfl) ?_
  refine va_get (ci := 7) (v := .ref q1) (C := RX7) (T := TX7) (N := 22) hx hb ht inX7 hown hK.1 hP 0 rfl rfl 1 (by decide) (ht _ q_667) (fun _ h9 => h9) rfl dX7_readEvent_15 ?_
  refine lv_aload_n hx hb dX7_readEvent_18 rfl (lv_at hl 0 rfl) ?_
  refine va_get (ci := 7) (v := .int (nI pl)) (C := RX7) (T := TX7) (N := 22) hx hb ht inX7 hown hK.1 hP 0 rfl rfl 3 (by decide) (ht _ q_669) (fun _ h9 => h9) rfl dX7_readEvent_19 ?_
  refine k_iald (v := (tx pl)) kx hK hP 1 rfl pl rfl (by omega) (by decide) rfl dX7_readEvent_22 ?_
  refine lv_bipush (v := 119) hx hb dX7_readEvent_23 (by decide) ?_
  refine lv_icmp_ne (x := tx pl) (y := 119) (tgt := 82) hx hb dX7_readEvent_25 (by decide) (fun (c2 : ¬ (tx pl = 119)) => ?_) (fun (c2 : tx pl = 119) => absurd c2 h2)
  refine lv_aload_n hx hb dX7_readEvent_82 rfl (lv_at hl 0 rfl) ?_
  refine lv_iconst (v := 1) hx hb dX7_readEvent_83 (by decide) ?_
  refine lv_bipush (v := 9) hx hb dX7_readEvent_84 (by decide) ?_
  refine k_calli (kRunV (As := [.int 1, .int 9]) (rest := []) kx (c_X7_figure_no_19 l G (upd (upd Z 2 (nI L)) 3 (nI pl)) L pl sd h0 q1 q2 q3 q4 q5 q6 q7 q8 q9 q10 q11 tx hL (by omega) h3) q_756 q_753 q_36 q_755 q_14 nX7_figure ⟨Nat.le_of_ble_eq_true rfl, Nat.le_of_ble_eq_true rfl⟩ hK hP hD (kCtx_all _) 0 7 rfl rfl rfl rfl hl.1 (Nat.le_of_ble_eq_true rfl) dX7_readEvent_86 ⟨Nat.zero_le _, Nat.zero_le _⟩) hP hD hS hA (kCtx_all _) (fun _ => rfl) (fun r3 _ H1 locs1 hw hP1 hD1 hS1 => ?_)
  have hr3 : (-9) = r3 := (show r3 = (-9) from hw).symm
  subst hr3
  have hP2 : va_P G.1 vwCl ([(h0, .inr (7, cM (upd (upd Z 2 (nI L)) 3 (nI pl)) q1 q2 q3 q4 q5 q6 q7 q8 q9 q10 q11 sd)), (q1, .inl (G.2.1, 70, .inl tx))]) H1 := hP1
  have hD3 : va_D A ([(h0, .inr (7, cM (upd (upd Z 2 (nI L)) 3 (nI pl)) q1 q2 q3 q4 q5 q6 q7 q8 q9 q10 q11 sd)), (q1, .inl (G.2.1, 70, .inl tx))]) := hD1
  exact k_iret kx hK hP2 hD3 hS1 (u := ()) rfl rfl dX7_readEvent_89

def l_X7_readLink_1_r (L : Nat) (tx : Nat → Int32) : Nat → Nat → Nat → Nat → (Nat → Int32) → Int32
  | 0, j1, p_1, m_1, re_1 => (-9)
  | n1 + 1, j1, p_1, m_1, re_1 => if nI L ≤ nI p_1 then (-9) else if tx p_1 = 100 then (if kfig L tx (p_1 + 1) 0 1 then (l_X7_readLink_1_r L tx n1 (j1 + 1) ((p_1 + 1) + 1) (m_1 + 1) (upd re_1 m_1 (10 + ((tx (p_1 + 1)) - 48)))) else nI (p_1 + 1)) else if tx p_1 = 119 then (if kfig L tx (p_1 + 1) 0 1 then (l_X7_readLink_1_r L tx n1 (j1 + 1) ((p_1 + 1) + 1) (m_1 + 1) (upd re_1 m_1 (20 + ((tx (p_1 + 1)) - 48)))) else nI (p_1 + 1)) else if kfig L tx p_1 1 9 then (l_X7_readLink_1_r L tx n1 (j1 + 1) (p_1 + 1) (m_1 + 1) (upd re_1 m_1 ((tx p_1) - 48))) else nI p_1
def r_X7_readLink (L : Nat) (tx : Nat → Int32) (re : Nat → Int32) : Int32 := if nI L = 0 then 0 else if tx 0 = 66 then (if kfig L tx 1 1 9 then (if kfig L tx (1 + 1) 1 9 then (if kfig L tx ((1 + 1) + 1) 1 5 then (if kfig L tx (((1 + 1) + 1) + 1) 1 9 then (if kfig L tx ((((1 + 1) + 1) + 1) + 1) 1 9 then (if kfig L tx (((((1 + 1) + 1) + 1) + 1) + 1) 1 5 then (l_X7_readLink_1_r L tx (L + 1) 0 ((((((1 + 1) + 1) + 1) + 1) + 1) + 1) 0 re) else nI (((((1 + 1) + 1) + 1) + 1) + 1)) else nI ((((1 + 1) + 1) + 1) + 1)) else nI (((1 + 1) + 1) + 1)) else nI ((1 + 1) + 1)) else nI (1 + 1)) else 1) else 0
def l_X7_readLink_1_Z (Z : Nat → Int32) (L : Nat) (tx : Nat → Int32) : Nat → Nat → Nat → Nat → (Nat → Int32) → Nat → Int32
  | 0, j1, p_1, m_1, re_1 => upd (upd (upd Z 2 (nI L)) 3 (nI p_1)) 6 (nI m_1)
  | n1 + 1, j1, p_1, m_1, re_1 => if nI L ≤ nI p_1 then (upd (upd (upd Z 2 (nI L)) 3 (nI p_1)) 6 (nI m_1)) else if tx p_1 = 100 then (if kfig L tx (p_1 + 1) 0 1 then (l_X7_readLink_1_Z Z L tx n1 (j1 + 1) ((p_1 + 1) + 1) (m_1 + 1) (upd re_1 m_1 (10 + ((tx (p_1 + 1)) - 48)))) else upd (upd (upd Z 2 (nI L)) 3 (nI (p_1 + 1))) 6 (nI m_1)) else if tx p_1 = 119 then (if kfig L tx (p_1 + 1) 0 1 then (l_X7_readLink_1_Z Z L tx n1 (j1 + 1) ((p_1 + 1) + 1) (m_1 + 1) (upd re_1 m_1 (20 + ((tx (p_1 + 1)) - 48)))) else upd (upd (upd Z 2 (nI L)) 3 (nI (p_1 + 1))) 6 (nI m_1)) else if kfig L tx p_1 1 9 then (l_X7_readLink_1_Z Z L tx n1 (j1 + 1) (p_1 + 1) (m_1 + 1) (upd re_1 m_1 ((tx p_1) - 48))) else upd (upd (upd Z 2 (nI L)) 3 (nI p_1)) 6 (nI m_1)
def s_X7_readLink_Z (Z : Nat → Int32) (L : Nat) (tx : Nat → Int32) (re : Nat → Int32) : Nat → Int32 := if nI L = 0 then (upd (upd (upd Z 2 (nI L)) 3 0) 6 0) else if tx 0 = 66 then (if kfig L tx 1 1 9 then (if kfig L tx (1 + 1) 1 9 then (if kfig L tx ((1 + 1) + 1) 1 5 then (if kfig L tx (((1 + 1) + 1) + 1) 1 9 then (if kfig L tx ((((1 + 1) + 1) + 1) + 1) 1 9 then (if kfig L tx (((((1 + 1) + 1) + 1) + 1) + 1) 1 5 then (l_X7_readLink_1_Z Z L tx (L + 1) 0 ((((((1 + 1) + 1) + 1) + 1) + 1) + 1) 0 re) else upd (upd (upd Z 2 (nI L)) 3 (nI (((((1 + 1) + 1) + 1) + 1) + 1))) 6 0) else upd (upd (upd Z 2 (nI L)) 3 (nI ((((1 + 1) + 1) + 1) + 1))) 6 0) else upd (upd (upd Z 2 (nI L)) 3 (nI (((1 + 1) + 1) + 1))) 6 0) else upd (upd (upd Z 2 (nI L)) 3 (nI ((1 + 1) + 1))) 6 0) else upd (upd (upd Z 2 (nI L)) 3 (nI (1 + 1))) 6 0) else upd (upd (upd (upd Z 2 (nI L)) 3 0) 6 0) 3 1) else upd (upd (upd Z 2 (nI L)) 3 0) 6 0
def l_X7_readLink_1_rp (L : Nat) (tx : Nat → Int32) (rp : Nat → Int32) : Nat → Nat → Nat → Nat → (Nat → Int32) → Nat → Int32
  | 0, j1, p_1, m_1, re_1 => upd (upd (upd (upd (upd (upd (upd (upd (upd (upd (s_X7_layFirst_f rp) 0 ((tx 1) - 48)) 1 ((tx (1 + 1)) - 48)) 2 ((tx ((1 + 1) + 1)) - 48)) 16 ((tx (((1 + 1) + 1) + 1)) - 48)) 17 ((tx ((((1 + 1) + 1) + 1) + 1)) - 48)) 18 ((tx (((((1 + 1) + 1) + 1) + 1) + 1)) - 48)) 3 ((tx 1) - 48)) 4 ((tx (1 + 1)) - 48)) 19 ((tx (((1 + 1) + 1) + 1)) - 48)) 20 ((tx ((((1 + 1) + 1) + 1) + 1)) - 48)
  | n1 + 1, j1, p_1, m_1, re_1 => if nI L ≤ nI p_1 then (upd (upd (upd (upd (upd (upd (upd (upd (upd (upd (s_X7_layFirst_f rp) 0 ((tx 1) - 48)) 1 ((tx (1 + 1)) - 48)) 2 ((tx ((1 + 1) + 1)) - 48)) 16 ((tx (((1 + 1) + 1) + 1)) - 48)) 17 ((tx ((((1 + 1) + 1) + 1) + 1)) - 48)) 18 ((tx (((((1 + 1) + 1) + 1) + 1) + 1)) - 48)) 3 ((tx 1) - 48)) 4 ((tx (1 + 1)) - 48)) 19 ((tx (((1 + 1) + 1) + 1)) - 48)) 20 ((tx ((((1 + 1) + 1) + 1) + 1)) - 48)) else if tx p_1 = 100 then (if kfig L tx (p_1 + 1) 0 1 then (l_X7_readLink_1_rp L tx rp n1 (j1 + 1) ((p_1 + 1) + 1) (m_1 + 1) (upd re_1 m_1 (10 + ((tx (p_1 + 1)) - 48)))) else upd (upd (upd (upd (upd (upd (upd (upd (upd (upd (s_X7_layFirst_f rp) 0 ((tx 1) - 48)) 1 ((tx (1 + 1)) - 48)) 2 ((tx ((1 + 1) + 1)) - 48)) 16 ((tx (((1 + 1) + 1) + 1)) - 48)) 17 ((tx ((((1 + 1) + 1) + 1) + 1)) - 48)) 18 ((tx (((((1 + 1) + 1) + 1) + 1) + 1)) - 48)) 3 ((tx 1) - 48)) 4 ((tx (1 + 1)) - 48)) 19 ((tx (((1 + 1) + 1) + 1)) - 48)) 20 ((tx ((((1 + 1) + 1) + 1) + 1)) - 48)) else if tx p_1 = 119 then (if kfig L tx (p_1 + 1) 0 1 then (l_X7_readLink_1_rp L tx rp n1 (j1 + 1) ((p_1 + 1) + 1) (m_1 + 1) (upd re_1 m_1 (20 + ((tx (p_1 + 1)) - 48)))) else upd (upd (upd (upd (upd (upd (upd (upd (upd (upd (s_X7_layFirst_f rp) 0 ((tx 1) - 48)) 1 ((tx (1 + 1)) - 48)) 2 ((tx ((1 + 1) + 1)) - 48)) 16 ((tx (((1 + 1) + 1) + 1)) - 48)) 17 ((tx ((((1 + 1) + 1) + 1) + 1)) - 48)) 18 ((tx (((((1 + 1) + 1) + 1) + 1) + 1)) - 48)) 3 ((tx 1) - 48)) 4 ((tx (1 + 1)) - 48)) 19 ((tx (((1 + 1) + 1) + 1)) - 48)) 20 ((tx ((((1 + 1) + 1) + 1) + 1)) - 48)) else if kfig L tx p_1 1 9 then (l_X7_readLink_1_rp L tx rp n1 (j1 + 1) (p_1 + 1) (m_1 + 1) (upd re_1 m_1 ((tx p_1) - 48))) else upd (upd (upd (upd (upd (upd (upd (upd (upd (upd (s_X7_layFirst_f rp) 0 ((tx 1) - 48)) 1 ((tx (1 + 1)) - 48)) 2 ((tx ((1 + 1) + 1)) - 48)) 16 ((tx (((1 + 1) + 1) + 1)) - 48)) 17 ((tx ((((1 + 1) + 1) + 1) + 1)) - 48)) 18 ((tx (((((1 + 1) + 1) + 1) + 1) + 1)) - 48)) 3 ((tx 1) - 48)) 4 ((tx (1 + 1)) - 48)) 19 ((tx (((1 + 1) + 1) + 1)) - 48)) 20 ((tx ((((1 + 1) + 1) + 1) + 1)) - 48)
def s_X7_readLink_rp (L : Nat) (tx : Nat → Int32) (rp : Nat → Int32) (re : Nat → Int32) : Nat → Int32 := if nI L = 0 then (s_X7_layFirst_f rp) else if tx 0 = 66 then (if kfig L tx 1 1 9 then (if kfig L tx (1 + 1) 1 9 then (if kfig L tx ((1 + 1) + 1) 1 5 then (if kfig L tx (((1 + 1) + 1) + 1) 1 9 then (if kfig L tx ((((1 + 1) + 1) + 1) + 1) 1 9 then (if kfig L tx (((((1 + 1) + 1) + 1) + 1) + 1) 1 5 then (l_X7_readLink_1_rp L tx rp (L + 1) 0 ((((((1 + 1) + 1) + 1) + 1) + 1) + 1) 0 re) else upd (upd (upd (upd (upd (s_X7_layFirst_f rp) 0 ((tx 1) - 48)) 1 ((tx (1 + 1)) - 48)) 2 ((tx ((1 + 1) + 1)) - 48)) 16 ((tx (((1 + 1) + 1) + 1)) - 48)) 17 ((tx ((((1 + 1) + 1) + 1) + 1)) - 48)) else upd (upd (upd (upd (s_X7_layFirst_f rp) 0 ((tx 1) - 48)) 1 ((tx (1 + 1)) - 48)) 2 ((tx ((1 + 1) + 1)) - 48)) 16 ((tx (((1 + 1) + 1) + 1)) - 48)) else upd (upd (upd (s_X7_layFirst_f rp) 0 ((tx 1) - 48)) 1 ((tx (1 + 1)) - 48)) 2 ((tx ((1 + 1) + 1)) - 48)) else upd (upd (s_X7_layFirst_f rp) 0 ((tx 1) - 48)) 1 ((tx (1 + 1)) - 48)) else upd (s_X7_layFirst_f rp) 0 ((tx 1) - 48)) else s_X7_layFirst_f rp) else s_X7_layFirst_f rp
def l_X7_readLink_1_re (L : Nat) (tx : Nat → Int32) : Nat → Nat → Nat → Nat → (Nat → Int32) → Nat → Int32
  | 0, j1, p_1, m_1, re_1 => re_1
  | n1 + 1, j1, p_1, m_1, re_1 => if nI L ≤ nI p_1 then re_1 else if tx p_1 = 100 then (if kfig L tx (p_1 + 1) 0 1 then (l_X7_readLink_1_re L tx n1 (j1 + 1) ((p_1 + 1) + 1) (m_1 + 1) (upd re_1 m_1 (10 + ((tx (p_1 + 1)) - 48)))) else re_1) else if tx p_1 = 119 then (if kfig L tx (p_1 + 1) 0 1 then (l_X7_readLink_1_re L tx n1 (j1 + 1) ((p_1 + 1) + 1) (m_1 + 1) (upd re_1 m_1 (20 + ((tx (p_1 + 1)) - 48)))) else re_1) else if kfig L tx p_1 1 9 then (l_X7_readLink_1_re L tx n1 (j1 + 1) (p_1 + 1) (m_1 + 1) (upd re_1 m_1 ((tx p_1) - 48))) else re_1
def s_X7_readLink_re (L : Nat) (tx : Nat → Int32) (re : Nat → Int32) : Nat → Int32 := if nI L = 0 then re else if tx 0 = 66 then (if kfig L tx 1 1 9 then (if kfig L tx (1 + 1) 1 9 then (if kfig L tx ((1 + 1) + 1) 1 5 then (if kfig L tx (((1 + 1) + 1) + 1) 1 9 then (if kfig L tx ((((1 + 1) + 1) + 1) + 1) 1 9 then (if kfig L tx (((((1 + 1) + 1) + 1) + 1) + 1) 1 5 then (l_X7_readLink_1_re L tx (L + 1) 0 ((((((1 + 1) + 1) + 1) + 1) + 1) + 1) 0 re) else re) else re) else re) else re) else re) else re) else re
set_option maxHeartbeats 4000000 in
set_option maxRecDepth 100000 in
theorem c_X7_readLink (l : Launch) (G : kG) (Z : Nat → Int32) (L : Nat) (sd : Int64) (h0 : Nat) (q1 : Nat) (q2 : Nat) (q3 : Nat) (q4 : Nat) (q5 : Nat) (q6 : Nat) (q7 : Nat) (q8 : Nat) (q9 : Nat) (q10 : Nat) (q11 : Nat) (tx : Nat → Int32) (rp : Nat → Int32) (re : Nat → Int32) (hL : L ≤ 70) : cG l G yX7_readLink cX7_readLink 3 (some .int) 3 [.ref h0] ([(h0, .inr (7, cM (upd Z 2 (nI L)) q1 q2 q3 q4 q5 q6 q7 q8 q9 q10 q11 sd)), (q1, .inl (G.2.1, 70, .inl tx)), (q2, .inl (G.2.1, 55, .inl rp)), (q3, .inl (G.2.1, 70, .inl re))]) (qI G (fun (r : Int32) (u : ((Nat → Int32) × (Nat → Int32) × (Nat → Int32))) => r = r_X7_readLink L tx re ∧ u.1 = s_X7_readLink_Z Z L tx re ∧ u.2.1 = s_X7_readLink_rp L tx rp re ∧ u.2.2 = s_X7_readLink_re L tx re) (fun u => [(h0, .inr (7, cM u.1 q1 q2 q3 q4 q5 q6 q7 q8 q9 q10 q11 sd)), (q1, .inl (G.2.1, 70, .inl tx)), (q2, .inl (G.2.1, 55, .inl u.2.1)), (q3, .inl (G.2.1, 70, .inl u.2.2))])) := by
  refine kintro (by decide) (Nat.le_of_ble_eq_true rfl) ?_
  intro p e s m args below meth c A ls kx hK hP hD hS hA hl
  have kx : kX p s m args meth c cX7_readLink 3 (some .int) RX7 := kx
  have hx := kx.1
  have hb := kx.2.1
  have hown := kx.2.2.2.2.1
  have ht := kx.2.2.2.2.2.2
  have hl : lv_has ls 3 [(0, .ref h0)] := hl
  refine lv_aload_n hx hb dX7_readLink_0 rfl (lv_at hl 0 rfl) ?_
  refine lv_iconst (v := 0) hx hb dX7_readLink_1 (by decide) ?_
  refine va_put (ci := 7) (v := .int 0) (ty := .int) (C := RX7) (T := TX7) (N := 22) hx hb ht inX7 tyX7 tyX7_ok nmX7 hown hK.1 hP hD hS 0 rfl rfl 3 (by decide) (ht _ q_669) (fun _ h9 => h9) rfl (by decide +kernel) rfl rfl (Nat.le_of_ble_eq_true rfl) dX7_readLink_2 (fun H1 locs1 hP1 hD1 hS1 => ?_)
  have hP2 : va_P G.1 vwCl ([(h0, .inr (7, cM (upd (upd Z 2 (nI L)) 3 0) q1 q2 q3 q4 q5 q6 q7 q8 q9 q10 q11 sd)), (q1, .inl (G.2.1, 70, .inl tx)), (q2, .inl (G.2.1, 55, .inl rp)), (q3, .inl (G.2.1, 70, .inl re))]) H1 := hP1
  have hD3 : va_D A ([(h0, .inr (7, cM (upd (upd Z 2 (nI L)) 3 0) q1 q2 q3 q4 q5 q6 q7 q8 q9 q10 q11 sd)), (q1, .inl (G.2.1, 70, .inl tx)), (q2, .inl (G.2.1, 55, .inl rp)), (q3, .inl (G.2.1, 70, .inl re))]) := hD1
  refine lv_aload_n hx hb dX7_readLink_5 rfl (lv_at hl 0 rfl) ?_
  refine lv_iconst (v := 0) hx hb dX7_readLink_6 (by decide) ?_
  refine va_put (ci := 7) (v := .int 0) (ty := .int) (C := RX7) (T := TX7) (N := 22) hx hb ht inX7 tyX7 tyX7_ok nmX7 hown hK.1 hP2 hD3 hS1 0 rfl rfl 6 (by decide) (ht _ q_672) (fun _ h9 => h9) rfl (by decide +kernel) rfl rfl (Nat.le_of_ble_eq_true rfl) dX7_readLink_7 (fun H4 locs4 hP4 hD4 hS4 => ?_)
  have hP5 : va_P G.1 vwCl ([(h0, .inr (7, cM (upd (upd (upd Z 2 (nI L)) 3 0) 6 0) q1 q2 q3 q4 q5 q6 q7 q8 q9 q10 q11 sd)), (q1, .inl (G.2.1, 70, .inl tx)), (q2, .inl (G.2.1, 55, .inl rp)), (q3, .inl (G.2.1, 70, .inl re))]) H4 := hP4
  have hD6 : va_D A ([(h0, .inr (7, cM (upd (upd (upd Z 2 (nI L)) 3 0) 6 0) q1 q2 q3 q4 q5 q6 q7 q8 q9 q10 q11 sd)), (q1, .inl (G.2.1, 70, .inl tx)), (q2, .inl (G.2.1, 55, .inl rp)), (q3, .inl (G.2.1, 70, .inl re))]) := hD4
  refine lv_aload_n hx hb dX7_readLink_10 rfl (lv_at hl 0 rfl) ?_
  refine va_get (ci := 7) (v := .ref q2) (C := RX7) (T := TX7) (N := 22) hx hb ht inX7 hown hK.1 hP5 0 rfl rfl 4 (by decide) (ht _ q_670) (fun _ h9 => h9) rfl dX7_readLink_11 ?_
  refine k_callv (kRunS (As := [.ref q2]) (rest := []) kx (c_X7_layFirst l G rp q2) q_665 q_663 q_36 q_664 nX7_layFirst ⟨Nat.le_of_ble_eq_true rfl, Nat.le_of_ble_eq_true rfl⟩ hK hP5 hD6 (kCtx_places _ _ [2] rfl rfl) rfl hl.1 (Nat.le_of_ble_eq_true rfl) dX7_readLink_14 ⟨Nat.zero_le _, Nat.zero_le _⟩) hP5 hD6 hS4 hA (kCtx_places _ _ [2] rfl rfl) (fun _ => rfl) (fun F2 H7 locs7 hw hP7 hD7 hS7 => ?_)
  have hF2 : s_X7_layFirst_f rp = F2 := (show F2 = s_X7_layFirst_f rp from hw).symm
  have hP8 : va_P G.1 vwCl ([(h0, .inr (7, cM (upd (upd (upd Z 2 (nI L)) 3 0) 6 0) q1 q2 q3 q4 q5 q6 q7 q8 q9 q10 q11 sd)), (q1, .inl (G.2.1, 70, .inl tx)), (q2, .inl (G.2.1, 55, .inl F2)), (q3, .inl (G.2.1, 70, .inl re))]) H7 := hP7
  have hD9 : va_D A ([(h0, .inr (7, cM (upd (upd (upd Z 2 (nI L)) 3 0) 6 0) q1 q2 q3 q4 q5 q6 q7 q8 q9 q10 q11 sd)), (q1, .inl (G.2.1, 70, .inl tx)), (q2, .inl (G.2.1, 55, .inl F2)), (q3, .inl (G.2.1, 70, .inl re))]) := hD7
  refine lv_aload_n hx hb dX7_readLink_17 rfl (lv_at hl 0 rfl) ?_
  refine va_get (ci := 7) (v := .int (nI L)) (C := RX7) (T := TX7) (N := 22) hx hb ht inX7 hown hK.1 hP8 0 rfl rfl 2 (by decide) (ht _ q_668) (fun _ h9 => h9) rfl dX7_readLink_18 ?_
  refine lv_if_eq (x := nI L) (tgt := 35) hx hb dX7_readLink_21 (by decide) (fun (c3 : nI L = 0) => ?_) (fun (c3 : ¬ (nI L = 0)) => ?_)
  · skip
    refine lv_iconst (v := 0) hx hb dX7_readLink_35 (by decide) ?_
    have er : r_X7_readLink L tx re = 0 := by rw [r_X7_readLink]; (try rw [hF2]); rw [if_pos c3]
    have e0 : s_X7_readLink_Z Z L tx re = upd (upd (upd Z 2 (nI L)) 3 0) 6 0 := by rw [s_X7_readLink_Z]; (try rw [hF2]); rw [if_pos c3]
    have e1 : s_X7_readLink_rp L tx rp re = F2 := by rw [s_X7_readLink_rp]; (try rw [hF2]); rw [if_pos c3]
    have e2 : s_X7_readLink_re L tx re = re := by rw [s_X7_readLink_re]; (try rw [hF2]); rw [if_pos c3]
    exact k_iret kx hK hP8 hD9 hS7 (u := (upd (upd (upd Z 2 (nI L)) 3 0) 6 0, F2, re)) rfl ⟨er.symm, e0.symm, e1.symm, e2.symm⟩ dX7_readLink_36
  · skip
    have nec3 : L ≠ 0 := fun q => c3 (by rw [q]; rfl)
    refine lv_aload_n hx hb dX7_readLink_24 rfl (lv_at hl 0 rfl) ?_
    refine va_get (ci := 7) (v := .ref q1) (C := RX7) (T := TX7) (N := 22) hx hb ht inX7 hown hK.1 hP8 0 rfl rfl 1 (by decide) (ht _ q_667) (fun _ h9 => h9) rfl dX7_readLink_25 ?_
    refine lv_iconst (v := 0) hx hb dX7_readLink_28 (by decide) ?_
    refine k_iald (v := (tx 0)) kx hK hP8 1 rfl 0 rfl (by decide) (by decide) rfl dX7_readLink_29 ?_
    refine lv_bipush (v := 66) hx hb dX7_readLink_30 (by decide) ?_
    refine lv_icmp_eq (x := tx 0) (y := 66) (tgt := 37) hx hb dX7_readLink_32 (by decide) (fun (c4 : tx 0 = 66) => ?_) (fun (c4 : ¬ (tx 0 = 66)) => ?_)
    · skip
      refine lv_aload_n hx hb dX7_readLink_37 rfl (lv_at hl 0 rfl) ?_
      refine lv_iconst (v := 1) hx hb dX7_readLink_38 (by decide) ?_
      refine va_put (ci := 7) (v := .int 1) (ty := .int) (C := RX7) (T := TX7) (N := 22) hx hb ht inX7 tyX7 tyX7_ok nmX7 hown hK.1 hP8 hD9 hS7 0 rfl rfl 3 (by decide) (ht _ q_669) (fun _ h9 => h9) rfl (by decide +kernel) rfl rfl (Nat.le_of_ble_eq_true rfl) dX7_readLink_39 (fun H10 locs10 hP10 hD10 hS10 => ?_)
      have hP11 : va_P G.1 vwCl ([(h0, .inr (7, cM (upd (upd (upd (upd Z 2 (nI L)) 3 0) 6 0) 3 1) q1 q2 q3 q4 q5 q6 q7 q8 q9 q10 q11 sd)), (q1, .inl (G.2.1, 70, .inl tx)), (q2, .inl (G.2.1, 55, .inl F2)), (q3, .inl (G.2.1, 70, .inl re))]) H10 := hP10
      have hD12 : va_D A ([(h0, .inr (7, cM (upd (upd (upd (upd Z 2 (nI L)) 3 0) 6 0) 3 1) q1 q2 q3 q4 q5 q6 q7 q8 q9 q10 q11 sd)), (q1, .inl (G.2.1, 70, .inl tx)), (q2, .inl (G.2.1, 55, .inl F2)), (q3, .inl (G.2.1, 70, .inl re))]) := hD10
      refine lv_iconst (v := 0) hx hb dX7_readLink_42 (by decide) ?_
      refine lv_istore_n (lv' := [(1, .int 0), (0, .ref h0)]) hx hb dX7_readLink_43 rfl hl (by decide) rfl (fun ls13 hl13 => ?_)
      refine lv_iload_n hx hb dX7_readLink_44 rfl (lv_at hl13 0 rfl) ?_
      refine lv_bipush (v := 6) hx hb dX7_readLink_45 (by decide) ?_
      refine lv_icmp_ge (x := 0) (y := 6) (tgt := 102) hx hb dX7_readLink_47 (by decide) (fun (c5 : 6 ≤ 0) => absurd c5 (by decide)) (fun (c5 : ¬ (6 ≤ 0)) => ?_)
      refine lv_aload_n hx hb dX7_readLink_50 rfl (lv_at hl13 1 rfl) ?_
      refine lv_iconst (v := 1) hx hb dX7_readLink_51 (by decide) ?_
      refine lv_iload_n hx hb dX7_readLink_52 rfl (lv_at hl13 0 rfl) ?_
      refine lv_iconst (v := 3) hx hb dX7_readLink_53 (by decide) ?_
      refine lv_irem hx hb dX7_readLink_54 (by decide) ?_
      refine k_top (y := 0) (by decide +kernel) ?_
      refine lv_iconst (v := 2) hx hb dX7_readLink_55 (by decide) ?_
      refine lv_icmp_ne (x := 0) (y := 2) (tgt := 63) hx hb dX7_readLink_56 (by decide) (fun (c6 : ¬ (0 = 2)) => ?_) (fun (c6 : 0 = 2) => absurd c6 (by decide))
      refine lv_bipush (v := 9) hx hb dX7_readLink_63 (by decide) ?_
      by_cases c7 : kfig L tx 1 1 9
      · skip
        refine k_calli (kRunV (As := [.int 1, .int 9]) (rest := []) kx (c_X7_figure_ok_19 l G (upd (upd (upd (upd Z 2 (nI L)) 3 0) 6 0) 3 1) L 1 sd h0 q1 q2 q3 q4 q5 q6 q7 q8 q9 q10 q11 tx hL c7) q_756 q_753 q_36 q_755 q_14 nX7_figure ⟨Nat.le_of_ble_eq_true rfl, Nat.le_of_ble_eq_true rfl⟩ hK hP11 hD12 (kCtx_places _ _ [0, 1] rfl rfl) 0 7 rfl rfl rfl rfl hl13.1 (Nat.le_of_ble_eq_true rfl) dX7_readLink_65 ⟨Nat.zero_le _, Nat.zero_le _⟩) hP11 hD12 hS10 hA (kCtx_places _ _ [0, 1] rfl rfl) (fun _ => rfl) (fun r8 _ H14 locs14 hw hP14 hD14 hS14 => ?_)
        have hr8 : (tx 1) - 48 = r8 := (show r8 = (tx 1) - 48 from hw).symm
        subst hr8
        have hP15 : va_P G.1 vwCl ([(h0, .inr (7, cM (upd (upd (upd Z 2 (nI L)) 3 (nI (1 + 1))) 6 0) q1 q2 q3 q4 q5 q6 q7 q8 q9 q10 q11 sd)), (q1, .inl (G.2.1, 70, .inl tx)), (q2, .inl (G.2.1, 55, .inl F2)), (q3, .inl (G.2.1, 70, .inl re))]) H14 := hP14
        have hD16 : va_D A ([(h0, .inr (7, cM (upd (upd (upd Z 2 (nI L)) 3 (nI (1 + 1))) 6 0) q1 q2 q3 q4 q5 q6 q7 q8 q9 q10 q11 sd)), (q1, .inl (G.2.1, 70, .inl tx)), (q2, .inl (G.2.1, 55, .inl F2)), (q3, .inl (G.2.1, 70, .inl re))]) := hD14
        have hfc7 := c7.1
        refine lv_istore_n (lv' := [(2, .int ((tx 1) - 48)), (1, .int 0), (0, .ref h0)]) hx hb dX7_readLink_68 rfl hl13 (by decide) rfl (fun ls17 hl17 => ?_)
        refine lv_iload_n hx hb dX7_readLink_69 rfl (lv_at hl17 0 rfl) ?_
        refine lv_bipush (v := (-9)) hx hb dX7_readLink_70 (by decide) ?_
        refine lv_icmp_ne (x := (tx 1) - 48) (y := (-9)) (tgt := 80) hx hb dX7_readLink_72 (by decide) (fun (c9 : ¬ ((tx 1) - 48 = (-9))) => ?_) (fun (c9 : (tx 1) - 48 = (-9)) => absurd c9 (kfig_ne c7 (by decide)))
        refine lv_aload_n hx hb dX7_readLink_80 rfl (lv_at hl17 2 rfl) ?_
        refine va_get (ci := 7) (v := .ref q2) (C := RX7) (T := TX7) (N := 22) hx hb ht inX7 hown hK.1 hP15 0 rfl rfl 4 (by decide) (ht _ q_670) (fun _ h9 => h9) rfl dX7_readLink_81 ?_
        refine lv_bipush (v := 16) hx hb dX7_readLink_84 (by decide) ?_
        refine lv_iload_n hx hb dX7_readLink_86 rfl (lv_at hl17 1 rfl) ?_
        refine lv_iconst (v := 3) hx hb dX7_readLink_87 (by decide) ?_
        refine lv_idiv hx hb dX7_readLink_88 (by decide) ?_
        refine k_top (y := 0) (by decide +kernel) ?_
        refine lv_imul hx hb dX7_readLink_89 ?_
        refine k_top (y := 0) (by decide +kernel) ?_
        refine lv_iload_n hx hb dX7_readLink_90 rfl (lv_at hl17 1 rfl) ?_
        refine lv_iconst (v := 3) hx hb dX7_readLink_91 (by decide) ?_
        refine lv_irem hx hb dX7_readLink_92 (by decide) ?_
        refine k_top (y := 0) (by decide +kernel) ?_
        refine lv_iadd hx hb dX7_readLink_93 ?_
        refine k_top (y := 0) (by decide +kernel) ?_
        refine lv_iload_n hx hb dX7_readLink_94 rfl (lv_at hl17 0 rfl) ?_
        refine k_iast kx hK hP15 hD16 hS14 2 rfl 0 rfl (by decide) (by decide) dX7_readLink_95 (fun H18 locs18 hP18 hD18 hS18 => ?_)
        have hP19 : va_P G.1 vwCl ([(h0, .inr (7, cM (upd (upd (upd Z 2 (nI L)) 3 (nI (1 + 1))) 6 0) q1 q2 q3 q4 q5 q6 q7 q8 q9 q10 q11 sd)), (q1, .inl (G.2.1, 70, .inl tx)), (q2, .inl (G.2.1, 55, .inl (upd F2 0 ((tx 1) - 48)))), (q3, .inl (G.2.1, 70, .inl re))]) H18 := hP18
        have hD20 : va_D A ([(h0, .inr (7, cM (upd (upd (upd Z 2 (nI L)) 3 (nI (1 + 1))) 6 0) q1 q2 q3 q4 q5 q6 q7 q8 q9 q10 q11 sd)), (q1, .inl (G.2.1, 70, .inl tx)), (q2, .inl (G.2.1, 55, .inl (upd F2 0 ((tx 1) - 48)))), (q3, .inl (G.2.1, 70, .inl re))]) := hD18
        refine lv_iinc (v := 1) (lv' := [(1, .int 1), (2, .int ((tx 1) - 48)), (0, .ref h0)]) hx hb dX7_readLink_96 hl17 (k := 1) rfl (by decide +kernel) (by decide) rfl (fun ls21 hl21 => ?_)
        refine lv_goto (tgt := 44) hx hb dX7_readLink_99 (by decide) ?_
        refine lv_iload_n hx hb dX7_readLink_44 rfl (lv_at hl21 0 rfl) ?_
        refine lv_bipush (v := 6) hx hb dX7_readLink_45 (by decide) ?_
        refine lv_icmp_ge (x := 1) (y := 6) (tgt := 102) hx hb dX7_readLink_47 (by decide) (fun (c10 : 6 ≤ 1) => absurd c10 (by decide)) (fun (c10 : ¬ (6 ≤ 1)) => ?_)
        refine lv_aload_n hx hb dX7_readLink_50 rfl (lv_at hl21 2 rfl) ?_
        refine lv_iconst (v := 1) hx hb dX7_readLink_51 (by decide) ?_
        refine lv_iload_n hx hb dX7_readLink_52 rfl (lv_at hl21 0 rfl) ?_
        refine lv_iconst (v := 3) hx hb dX7_readLink_53 (by decide) ?_
        refine lv_irem hx hb dX7_readLink_54 (by decide) ?_
        refine k_top (y := 1) (by decide +kernel) ?_
        refine lv_iconst (v := 2) hx hb dX7_readLink_55 (by decide) ?_
        refine lv_icmp_ne (x := 1) (y := 2) (tgt := 63) hx hb dX7_readLink_56 (by decide) (fun (c11 : ¬ (1 = 2)) => ?_) (fun (c11 : 1 = 2) => absurd c11 (by decide))
        refine lv_bipush (v := 9) hx hb dX7_readLink_63 (by decide) ?_
        by_cases c12 : kfig L tx (1 + 1) 1 9
        · skip
          refine k_calli (kRunV (As := [.int 1, .int 9]) (rest := []) kx (c_X7_figure_ok_19 l G (upd (upd (upd Z 2 (nI L)) 3 (nI (1 + 1))) 6 0) L (1 + 1) sd h0 q1 q2 q3 q4 q5 q6 q7 q8 q9 q10 q11 tx hL c12) q_756 q_753 q_36 q_755 q_14 nX7_figure ⟨Nat.le_of_ble_eq_true rfl, Nat.le_of_ble_eq_true rfl⟩ hK hP19 hD20 (kCtx_places _ _ [0, 1] rfl rfl) 0 7 rfl rfl rfl rfl hl21.1 (Nat.le_of_ble_eq_true rfl) dX7_readLink_65 ⟨Nat.zero_le _, Nat.zero_le _⟩) hP19 hD20 hS18 hA (kCtx_places _ _ [0, 1] rfl rfl) (fun _ => rfl) (fun r13 _ H22 locs22 hw hP22 hD22 hS22 => ?_)
          have hr13 : (tx (1 + 1)) - 48 = r13 := (show r13 = (tx (1 + 1)) - 48 from hw).symm
          subst hr13
          have hP23 : va_P G.1 vwCl ([(h0, .inr (7, cM (upd (upd (upd Z 2 (nI L)) 3 (nI ((1 + 1) + 1))) 6 0) q1 q2 q3 q4 q5 q6 q7 q8 q9 q10 q11 sd)), (q1, .inl (G.2.1, 70, .inl tx)), (q2, .inl (G.2.1, 55, .inl (upd F2 0 ((tx 1) - 48)))), (q3, .inl (G.2.1, 70, .inl re))]) H22 := hP22
          have hD24 : va_D A ([(h0, .inr (7, cM (upd (upd (upd Z 2 (nI L)) 3 (nI ((1 + 1) + 1))) 6 0) q1 q2 q3 q4 q5 q6 q7 q8 q9 q10 q11 sd)), (q1, .inl (G.2.1, 70, .inl tx)), (q2, .inl (G.2.1, 55, .inl (upd F2 0 ((tx 1) - 48)))), (q3, .inl (G.2.1, 70, .inl re))]) := hD22
          have hfc12 := c12.1
          refine lv_istore_n (lv' := [(2, .int ((tx (1 + 1)) - 48)), (1, .int 1), (0, .ref h0)]) hx hb dX7_readLink_68 rfl hl21 (by decide) rfl (fun ls25 hl25 => ?_)
          refine lv_iload_n hx hb dX7_readLink_69 rfl (lv_at hl25 0 rfl) ?_
          refine lv_bipush (v := (-9)) hx hb dX7_readLink_70 (by decide) ?_
          refine lv_icmp_ne (x := (tx (1 + 1)) - 48) (y := (-9)) (tgt := 80) hx hb dX7_readLink_72 (by decide) (fun (c14 : ¬ ((tx (1 + 1)) - 48 = (-9))) => ?_) (fun (c14 : (tx (1 + 1)) - 48 = (-9)) => absurd c14 (kfig_ne c12 (by decide)))
          refine lv_aload_n hx hb dX7_readLink_80 rfl (lv_at hl25 2 rfl) ?_
          refine va_get (ci := 7) (v := .ref q2) (C := RX7) (T := TX7) (N := 22) hx hb ht inX7 hown hK.1 hP23 0 rfl rfl 4 (by decide) (ht _ q_670) (fun _ h9 => h9) rfl dX7_readLink_81 ?_
          refine lv_bipush (v := 16) hx hb dX7_readLink_84 (by decide) ?_
          refine lv_iload_n hx hb dX7_readLink_86 rfl (lv_at hl25 1 rfl) ?_
          refine lv_iconst (v := 3) hx hb dX7_readLink_87 (by decide) ?_
          refine lv_idiv hx hb dX7_readLink_88 (by decide) ?_
          refine k_top (y := 0) (by decide +kernel) ?_
          refine lv_imul hx hb dX7_readLink_89 ?_
          refine k_top (y := 0) (by decide +kernel) ?_
          refine lv_iload_n hx hb dX7_readLink_90 rfl (lv_at hl25 1 rfl) ?_
          refine lv_iconst (v := 3) hx hb dX7_readLink_91 (by decide) ?_
          refine lv_irem hx hb dX7_readLink_92 (by decide) ?_
          refine k_top (y := 1) (by decide +kernel) ?_
          refine lv_iadd hx hb dX7_readLink_93 ?_
          refine k_top (y := 1) (by decide +kernel) ?_
          refine lv_iload_n hx hb dX7_readLink_94 rfl (lv_at hl25 0 rfl) ?_
          refine k_iast kx hK hP23 hD24 hS22 2 rfl 1 rfl (by decide) (by decide) dX7_readLink_95 (fun H26 locs26 hP26 hD26 hS26 => ?_)
          have hP27 : va_P G.1 vwCl ([(h0, .inr (7, cM (upd (upd (upd Z 2 (nI L)) 3 (nI ((1 + 1) + 1))) 6 0) q1 q2 q3 q4 q5 q6 q7 q8 q9 q10 q11 sd)), (q1, .inl (G.2.1, 70, .inl tx)), (q2, .inl (G.2.1, 55, .inl (upd (upd F2 0 ((tx 1) - 48)) 1 ((tx (1 + 1)) - 48)))), (q3, .inl (G.2.1, 70, .inl re))]) H26 := hP26
          have hD28 : va_D A ([(h0, .inr (7, cM (upd (upd (upd Z 2 (nI L)) 3 (nI ((1 + 1) + 1))) 6 0) q1 q2 q3 q4 q5 q6 q7 q8 q9 q10 q11 sd)), (q1, .inl (G.2.1, 70, .inl tx)), (q2, .inl (G.2.1, 55, .inl (upd (upd F2 0 ((tx 1) - 48)) 1 ((tx (1 + 1)) - 48)))), (q3, .inl (G.2.1, 70, .inl re))]) := hD26
          refine lv_iinc (v := 2) (lv' := [(1, .int 2), (2, .int ((tx (1 + 1)) - 48)), (0, .ref h0)]) hx hb dX7_readLink_96 hl25 (k := 1) rfl (by decide +kernel) (by decide) rfl (fun ls29 hl29 => ?_)
          refine lv_goto (tgt := 44) hx hb dX7_readLink_99 (by decide) ?_
          refine lv_iload_n hx hb dX7_readLink_44 rfl (lv_at hl29 0 rfl) ?_
          refine lv_bipush (v := 6) hx hb dX7_readLink_45 (by decide) ?_
          refine lv_icmp_ge (x := 2) (y := 6) (tgt := 102) hx hb dX7_readLink_47 (by decide) (fun (c15 : 6 ≤ 2) => absurd c15 (by decide)) (fun (c15 : ¬ (6 ≤ 2)) => ?_)
          refine lv_aload_n hx hb dX7_readLink_50 rfl (lv_at hl29 2 rfl) ?_
          refine lv_iconst (v := 1) hx hb dX7_readLink_51 (by decide) ?_
          refine lv_iload_n hx hb dX7_readLink_52 rfl (lv_at hl29 0 rfl) ?_
          refine lv_iconst (v := 3) hx hb dX7_readLink_53 (by decide) ?_
          refine lv_irem hx hb dX7_readLink_54 (by decide) ?_
          refine k_top (y := 2) (by decide +kernel) ?_
          refine lv_iconst (v := 2) hx hb dX7_readLink_55 (by decide) ?_
          refine lv_icmp_ne (x := 2) (y := 2) (tgt := 63) hx hb dX7_readLink_56 (by decide) (fun (c16 : ¬ (2 = 2)) => absurd (by decide) c16) (fun (c16 : 2 = 2) => ?_)
          refine lv_iconst (v := 5) hx hb dX7_readLink_59 (by decide) ?_
          refine lv_goto (tgt := 65) hx hb dX7_readLink_60 (by decide) ?_
          by_cases c17 : kfig L tx ((1 + 1) + 1) 1 5
          · skip
            refine k_calli (kRunV (As := [.int 1, .int 5]) (rest := []) kx (c_X7_figure_ok_15 l G (upd (upd (upd Z 2 (nI L)) 3 (nI ((1 + 1) + 1))) 6 0) L ((1 + 1) + 1) sd h0 q1 q2 q3 q4 q5 q6 q7 q8 q9 q10 q11 tx hL c17) q_756 q_753 q_36 q_755 q_14 nX7_figure ⟨Nat.le_of_ble_eq_true rfl, Nat.le_of_ble_eq_true rfl⟩ hK hP27 hD28 (kCtx_places _ _ [0, 1] rfl rfl) 0 7 rfl rfl rfl rfl hl29.1 (Nat.le_of_ble_eq_true rfl) dX7_readLink_65 ⟨Nat.zero_le _, Nat.zero_le _⟩) hP27 hD28 hS26 hA (kCtx_places _ _ [0, 1] rfl rfl) (fun _ => rfl) (fun r18 _ H30 locs30 hw hP30 hD30 hS30 => ?_)
            have hr18 : (tx ((1 + 1) + 1)) - 48 = r18 := (show r18 = (tx ((1 + 1) + 1)) - 48 from hw).symm
            subst hr18
            have hP31 : va_P G.1 vwCl ([(h0, .inr (7, cM (upd (upd (upd Z 2 (nI L)) 3 (nI (((1 + 1) + 1) + 1))) 6 0) q1 q2 q3 q4 q5 q6 q7 q8 q9 q10 q11 sd)), (q1, .inl (G.2.1, 70, .inl tx)), (q2, .inl (G.2.1, 55, .inl (upd (upd F2 0 ((tx 1) - 48)) 1 ((tx (1 + 1)) - 48)))), (q3, .inl (G.2.1, 70, .inl re))]) H30 := hP30
            have hD32 : va_D A ([(h0, .inr (7, cM (upd (upd (upd Z 2 (nI L)) 3 (nI (((1 + 1) + 1) + 1))) 6 0) q1 q2 q3 q4 q5 q6 q7 q8 q9 q10 q11 sd)), (q1, .inl (G.2.1, 70, .inl tx)), (q2, .inl (G.2.1, 55, .inl (upd (upd F2 0 ((tx 1) - 48)) 1 ((tx (1 + 1)) - 48)))), (q3, .inl (G.2.1, 70, .inl re))]) := hD30
            have hfc17 := c17.1
            refine lv_istore_n (lv' := [(2, .int ((tx ((1 + 1) + 1)) - 48)), (1, .int 2), (0, .ref h0)]) hx hb dX7_readLink_68 rfl hl29 (by decide) rfl (fun ls33 hl33 => ?_)
            refine lv_iload_n hx hb dX7_readLink_69 rfl (lv_at hl33 0 rfl) ?_
            refine lv_bipush (v := (-9)) hx hb dX7_readLink_70 (by decide) ?_
            refine lv_icmp_ne (x := (tx ((1 + 1) + 1)) - 48) (y := (-9)) (tgt := 80) hx hb dX7_readLink_72 (by decide) (fun (c19 : ¬ ((tx ((1 + 1) + 1)) - 48 = (-9))) => ?_) (fun (c19 : (tx ((1 + 1) + 1)) - 48 = (-9)) => absurd c19 (kfig_ne c17 (by decide)))
            refine lv_aload_n hx hb dX7_readLink_80 rfl (lv_at hl33 2 rfl) ?_
            refine va_get (ci := 7) (v := .ref q2) (C := RX7) (T := TX7) (N := 22) hx hb ht inX7 hown hK.1 hP31 0 rfl rfl 4 (by decide) (ht _ q_670) (fun _ h9 => h9) rfl dX7_readLink_81 ?_
            refine lv_bipush (v := 16) hx hb dX7_readLink_84 (by decide) ?_
            refine lv_iload_n hx hb dX7_readLink_86 rfl (lv_at hl33 1 rfl) ?_
            refine lv_iconst (v := 3) hx hb dX7_readLink_87 (by decide) ?_
            refine lv_idiv hx hb dX7_readLink_88 (by decide) ?_
            refine k_top (y := 0) (by decide +kernel) ?_
            refine lv_imul hx hb dX7_readLink_89 ?_
            refine k_top (y := 0) (by decide +kernel) ?_
            refine lv_iload_n hx hb dX7_readLink_90 rfl (lv_at hl33 1 rfl) ?_
            refine lv_iconst (v := 3) hx hb dX7_readLink_91 (by decide) ?_
            refine lv_irem hx hb dX7_readLink_92 (by decide) ?_
            refine k_top (y := 2) (by decide +kernel) ?_
            refine lv_iadd hx hb dX7_readLink_93 ?_
            refine k_top (y := 2) (by decide +kernel) ?_
            refine lv_iload_n hx hb dX7_readLink_94 rfl (lv_at hl33 0 rfl) ?_
            refine k_iast kx hK hP31 hD32 hS30 2 rfl 2 rfl (by decide) (by decide) dX7_readLink_95 (fun H34 locs34 hP34 hD34 hS34 => ?_)
            have hP35 : va_P G.1 vwCl ([(h0, .inr (7, cM (upd (upd (upd Z 2 (nI L)) 3 (nI (((1 + 1) + 1) + 1))) 6 0) q1 q2 q3 q4 q5 q6 q7 q8 q9 q10 q11 sd)), (q1, .inl (G.2.1, 70, .inl tx)), (q2, .inl (G.2.1, 55, .inl (upd (upd (upd F2 0 ((tx 1) - 48)) 1 ((tx (1 + 1)) - 48)) 2 ((tx ((1 + 1) + 1)) - 48)))), (q3, .inl (G.2.1, 70, .inl re))]) H34 := hP34
            have hD36 : va_D A ([(h0, .inr (7, cM (upd (upd (upd Z 2 (nI L)) 3 (nI (((1 + 1) + 1) + 1))) 6 0) q1 q2 q3 q4 q5 q6 q7 q8 q9 q10 q11 sd)), (q1, .inl (G.2.1, 70, .inl tx)), (q2, .inl (G.2.1, 55, .inl (upd (upd (upd F2 0 ((tx 1) - 48)) 1 ((tx (1 + 1)) - 48)) 2 ((tx ((1 + 1) + 1)) - 48)))), (q3, .inl (G.2.1, 70, .inl re))]) := hD34
            refine lv_iinc (v := 3) (lv' := [(1, .int 3), (2, .int ((tx ((1 + 1) + 1)) - 48)), (0, .ref h0)]) hx hb dX7_readLink_96 hl33 (k := 1) rfl (by decide +kernel) (by decide) rfl (fun ls37 hl37 => ?_)
            refine lv_goto (tgt := 44) hx hb dX7_readLink_99 (by decide) ?_
            refine lv_iload_n hx hb dX7_readLink_44 rfl (lv_at hl37 0 rfl) ?_
            refine lv_bipush (v := 6) hx hb dX7_readLink_45 (by decide) ?_
            refine lv_icmp_ge (x := 3) (y := 6) (tgt := 102) hx hb dX7_readLink_47 (by decide) (fun (c20 : 6 ≤ 3) => absurd c20 (by decide)) (fun (c20 : ¬ (6 ≤ 3)) => ?_)
            refine lv_aload_n hx hb dX7_readLink_50 rfl (lv_at hl37 2 rfl) ?_
            refine lv_iconst (v := 1) hx hb dX7_readLink_51 (by decide) ?_
            refine lv_iload_n hx hb dX7_readLink_52 rfl (lv_at hl37 0 rfl) ?_
            refine lv_iconst (v := 3) hx hb dX7_readLink_53 (by decide) ?_
            refine lv_irem hx hb dX7_readLink_54 (by decide) ?_
            refine k_top (y := 0) (by decide +kernel) ?_
            refine lv_iconst (v := 2) hx hb dX7_readLink_55 (by decide) ?_
            refine lv_icmp_ne (x := 0) (y := 2) (tgt := 63) hx hb dX7_readLink_56 (by decide) (fun (c21 : ¬ (0 = 2)) => ?_) (fun (c21 : 0 = 2) => absurd c21 (by decide))
            refine lv_bipush (v := 9) hx hb dX7_readLink_63 (by decide) ?_
            by_cases c22 : kfig L tx (((1 + 1) + 1) + 1) 1 9
            · skip
              refine k_calli (kRunV (As := [.int 1, .int 9]) (rest := []) kx (c_X7_figure_ok_19 l G (upd (upd (upd Z 2 (nI L)) 3 (nI (((1 + 1) + 1) + 1))) 6 0) L (((1 + 1) + 1) + 1) sd h0 q1 q2 q3 q4 q5 q6 q7 q8 q9 q10 q11 tx hL c22) q_756 q_753 q_36 q_755 q_14 nX7_figure ⟨Nat.le_of_ble_eq_true rfl, Nat.le_of_ble_eq_true rfl⟩ hK hP35 hD36 (kCtx_places _ _ [0, 1] rfl rfl) 0 7 rfl rfl rfl rfl hl37.1 (Nat.le_of_ble_eq_true rfl) dX7_readLink_65 ⟨Nat.zero_le _, Nat.zero_le _⟩) hP35 hD36 hS34 hA (kCtx_places _ _ [0, 1] rfl rfl) (fun _ => rfl) (fun r23 _ H38 locs38 hw hP38 hD38 hS38 => ?_)
              have hr23 : (tx (((1 + 1) + 1) + 1)) - 48 = r23 := (show r23 = (tx (((1 + 1) + 1) + 1)) - 48 from hw).symm
              subst hr23
              have hP39 : va_P G.1 vwCl ([(h0, .inr (7, cM (upd (upd (upd Z 2 (nI L)) 3 (nI ((((1 + 1) + 1) + 1) + 1))) 6 0) q1 q2 q3 q4 q5 q6 q7 q8 q9 q10 q11 sd)), (q1, .inl (G.2.1, 70, .inl tx)), (q2, .inl (G.2.1, 55, .inl (upd (upd (upd F2 0 ((tx 1) - 48)) 1 ((tx (1 + 1)) - 48)) 2 ((tx ((1 + 1) + 1)) - 48)))), (q3, .inl (G.2.1, 70, .inl re))]) H38 := hP38
              have hD40 : va_D A ([(h0, .inr (7, cM (upd (upd (upd Z 2 (nI L)) 3 (nI ((((1 + 1) + 1) + 1) + 1))) 6 0) q1 q2 q3 q4 q5 q6 q7 q8 q9 q10 q11 sd)), (q1, .inl (G.2.1, 70, .inl tx)), (q2, .inl (G.2.1, 55, .inl (upd (upd (upd F2 0 ((tx 1) - 48)) 1 ((tx (1 + 1)) - 48)) 2 ((tx ((1 + 1) + 1)) - 48)))), (q3, .inl (G.2.1, 70, .inl re))]) := hD38
              have hfc22 := c22.1
              refine lv_istore_n (lv' := [(2, .int ((tx (((1 + 1) + 1) + 1)) - 48)), (1, .int 3), (0, .ref h0)]) hx hb dX7_readLink_68 rfl hl37 (by decide) rfl (fun ls41 hl41 => ?_)
              refine lv_iload_n hx hb dX7_readLink_69 rfl (lv_at hl41 0 rfl) ?_
              refine lv_bipush (v := (-9)) hx hb dX7_readLink_70 (by decide) ?_
              refine lv_icmp_ne (x := (tx (((1 + 1) + 1) + 1)) - 48) (y := (-9)) (tgt := 80) hx hb dX7_readLink_72 (by decide) (fun (c24 : ¬ ((tx (((1 + 1) + 1) + 1)) - 48 = (-9))) => ?_) (fun (c24 : (tx (((1 + 1) + 1) + 1)) - 48 = (-9)) => absurd c24 (kfig_ne c22 (by decide)))
              refine lv_aload_n hx hb dX7_readLink_80 rfl (lv_at hl41 2 rfl) ?_
              refine va_get (ci := 7) (v := .ref q2) (C := RX7) (T := TX7) (N := 22) hx hb ht inX7 hown hK.1 hP39 0 rfl rfl 4 (by decide) (ht _ q_670) (fun _ h9 => h9) rfl dX7_readLink_81 ?_
              refine lv_bipush (v := 16) hx hb dX7_readLink_84 (by decide) ?_
              refine lv_iload_n hx hb dX7_readLink_86 rfl (lv_at hl41 1 rfl) ?_
              refine lv_iconst (v := 3) hx hb dX7_readLink_87 (by decide) ?_
              refine lv_idiv hx hb dX7_readLink_88 (by decide) ?_
              refine k_top (y := 1) (by decide +kernel) ?_
              refine lv_imul hx hb dX7_readLink_89 ?_
              refine k_top (y := 16) (by decide +kernel) ?_
              refine lv_iload_n hx hb dX7_readLink_90 rfl (lv_at hl41 1 rfl) ?_
              refine lv_iconst (v := 3) hx hb dX7_readLink_91 (by decide) ?_
              refine lv_irem hx hb dX7_readLink_92 (by decide) ?_
              refine k_top (y := 0) (by decide +kernel) ?_
              refine lv_iadd hx hb dX7_readLink_93 ?_
              refine k_top (y := 16) (by decide +kernel) ?_
              refine lv_iload_n hx hb dX7_readLink_94 rfl (lv_at hl41 0 rfl) ?_
              refine k_iast kx hK hP39 hD40 hS38 2 rfl 16 rfl (by decide) (by decide) dX7_readLink_95 (fun H42 locs42 hP42 hD42 hS42 => ?_)
              have hP43 : va_P G.1 vwCl ([(h0, .inr (7, cM (upd (upd (upd Z 2 (nI L)) 3 (nI ((((1 + 1) + 1) + 1) + 1))) 6 0) q1 q2 q3 q4 q5 q6 q7 q8 q9 q10 q11 sd)), (q1, .inl (G.2.1, 70, .inl tx)), (q2, .inl (G.2.1, 55, .inl (upd (upd (upd (upd F2 0 ((tx 1) - 48)) 1 ((tx (1 + 1)) - 48)) 2 ((tx ((1 + 1) + 1)) - 48)) 16 ((tx (((1 + 1) + 1) + 1)) - 48)))), (q3, .inl (G.2.1, 70, .inl re))]) H42 := hP42
              have hD44 : va_D A ([(h0, .inr (7, cM (upd (upd (upd Z 2 (nI L)) 3 (nI ((((1 + 1) + 1) + 1) + 1))) 6 0) q1 q2 q3 q4 q5 q6 q7 q8 q9 q10 q11 sd)), (q1, .inl (G.2.1, 70, .inl tx)), (q2, .inl (G.2.1, 55, .inl (upd (upd (upd (upd F2 0 ((tx 1) - 48)) 1 ((tx (1 + 1)) - 48)) 2 ((tx ((1 + 1) + 1)) - 48)) 16 ((tx (((1 + 1) + 1) + 1)) - 48)))), (q3, .inl (G.2.1, 70, .inl re))]) := hD42
              refine lv_iinc (v := 4) (lv' := [(1, .int 4), (2, .int ((tx (((1 + 1) + 1) + 1)) - 48)), (0, .ref h0)]) hx hb dX7_readLink_96 hl41 (k := 1) rfl (by decide +kernel) (by decide) rfl (fun ls45 hl45 => ?_)
              refine lv_goto (tgt := 44) hx hb dX7_readLink_99 (by decide) ?_
              refine lv_iload_n hx hb dX7_readLink_44 rfl (lv_at hl45 0 rfl) ?_
              refine lv_bipush (v := 6) hx hb dX7_readLink_45 (by decide) ?_
              refine lv_icmp_ge (x := 4) (y := 6) (tgt := 102) hx hb dX7_readLink_47 (by decide) (fun (c25 : 6 ≤ 4) => absurd c25 (by decide)) (fun (c25 : ¬ (6 ≤ 4)) => ?_)
              refine lv_aload_n hx hb dX7_readLink_50 rfl (lv_at hl45 2 rfl) ?_
              refine lv_iconst (v := 1) hx hb dX7_readLink_51 (by decide) ?_
              refine lv_iload_n hx hb dX7_readLink_52 rfl (lv_at hl45 0 rfl) ?_
              refine lv_iconst (v := 3) hx hb dX7_readLink_53 (by decide) ?_
              refine lv_irem hx hb dX7_readLink_54 (by decide) ?_
              refine k_top (y := 1) (by decide +kernel) ?_
              refine lv_iconst (v := 2) hx hb dX7_readLink_55 (by decide) ?_
              refine lv_icmp_ne (x := 1) (y := 2) (tgt := 63) hx hb dX7_readLink_56 (by decide) (fun (c26 : ¬ (1 = 2)) => ?_) (fun (c26 : 1 = 2) => absurd c26 (by decide))
              refine lv_bipush (v := 9) hx hb dX7_readLink_63 (by decide) ?_
              by_cases c27 : kfig L tx ((((1 + 1) + 1) + 1) + 1) 1 9
              · skip
                refine k_calli (kRunV (As := [.int 1, .int 9]) (rest := []) kx (c_X7_figure_ok_19 l G (upd (upd (upd Z 2 (nI L)) 3 (nI ((((1 + 1) + 1) + 1) + 1))) 6 0) L ((((1 + 1) + 1) + 1) + 1) sd h0 q1 q2 q3 q4 q5 q6 q7 q8 q9 q10 q11 tx hL c27) q_756 q_753 q_36 q_755 q_14 nX7_figure ⟨Nat.le_of_ble_eq_true rfl, Nat.le_of_ble_eq_true rfl⟩ hK hP43 hD44 (kCtx_places _ _ [0, 1] rfl rfl) 0 7 rfl rfl rfl rfl hl45.1 (Nat.le_of_ble_eq_true rfl) dX7_readLink_65 ⟨Nat.zero_le _, Nat.zero_le _⟩) hP43 hD44 hS42 hA (kCtx_places _ _ [0, 1] rfl rfl) (fun _ => rfl) (fun r28 _ H46 locs46 hw hP46 hD46 hS46 => ?_)
                have hr28 : (tx ((((1 + 1) + 1) + 1) + 1)) - 48 = r28 := (show r28 = (tx ((((1 + 1) + 1) + 1) + 1)) - 48 from hw).symm
                subst hr28
                have hP47 : va_P G.1 vwCl ([(h0, .inr (7, cM (upd (upd (upd Z 2 (nI L)) 3 (nI (((((1 + 1) + 1) + 1) + 1) + 1))) 6 0) q1 q2 q3 q4 q5 q6 q7 q8 q9 q10 q11 sd)), (q1, .inl (G.2.1, 70, .inl tx)), (q2, .inl (G.2.1, 55, .inl (upd (upd (upd (upd F2 0 ((tx 1) - 48)) 1 ((tx (1 + 1)) - 48)) 2 ((tx ((1 + 1) + 1)) - 48)) 16 ((tx (((1 + 1) + 1) + 1)) - 48)))), (q3, .inl (G.2.1, 70, .inl re))]) H46 := hP46
                have hD48 : va_D A ([(h0, .inr (7, cM (upd (upd (upd Z 2 (nI L)) 3 (nI (((((1 + 1) + 1) + 1) + 1) + 1))) 6 0) q1 q2 q3 q4 q5 q6 q7 q8 q9 q10 q11 sd)), (q1, .inl (G.2.1, 70, .inl tx)), (q2, .inl (G.2.1, 55, .inl (upd (upd (upd (upd F2 0 ((tx 1) - 48)) 1 ((tx (1 + 1)) - 48)) 2 ((tx ((1 + 1) + 1)) - 48)) 16 ((tx (((1 + 1) + 1) + 1)) - 48)))), (q3, .inl (G.2.1, 70, .inl re))]) := hD46
                have hfc27 := c27.1
                refine lv_istore_n (lv' := [(2, .int ((tx ((((1 + 1) + 1) + 1) + 1)) - 48)), (1, .int 4), (0, .ref h0)]) hx hb dX7_readLink_68 rfl hl45 (by decide) rfl (fun ls49 hl49 => ?_)
                refine lv_iload_n hx hb dX7_readLink_69 rfl (lv_at hl49 0 rfl) ?_
                refine lv_bipush (v := (-9)) hx hb dX7_readLink_70 (by decide) ?_
                refine lv_icmp_ne (x := (tx ((((1 + 1) + 1) + 1) + 1)) - 48) (y := (-9)) (tgt := 80) hx hb dX7_readLink_72 (by decide) (fun (c29 : ¬ ((tx ((((1 + 1) + 1) + 1) + 1)) - 48 = (-9))) => ?_) (fun (c29 : (tx ((((1 + 1) + 1) + 1) + 1)) - 48 = (-9)) => absurd c29 (kfig_ne c27 (by decide)))
                refine lv_aload_n hx hb dX7_readLink_80 rfl (lv_at hl49 2 rfl) ?_
                refine va_get (ci := 7) (v := .ref q2) (C := RX7) (T := TX7) (N := 22) hx hb ht inX7 hown hK.1 hP47 0 rfl rfl 4 (by decide) (ht _ q_670) (fun _ h9 => h9) rfl dX7_readLink_81 ?_
                refine lv_bipush (v := 16) hx hb dX7_readLink_84 (by decide) ?_
                refine lv_iload_n hx hb dX7_readLink_86 rfl (lv_at hl49 1 rfl) ?_
                refine lv_iconst (v := 3) hx hb dX7_readLink_87 (by decide) ?_
                refine lv_idiv hx hb dX7_readLink_88 (by decide) ?_
                refine k_top (y := 1) (by decide +kernel) ?_
                refine lv_imul hx hb dX7_readLink_89 ?_
                refine k_top (y := 16) (by decide +kernel) ?_
                refine lv_iload_n hx hb dX7_readLink_90 rfl (lv_at hl49 1 rfl) ?_
                refine lv_iconst (v := 3) hx hb dX7_readLink_91 (by decide) ?_
                refine lv_irem hx hb dX7_readLink_92 (by decide) ?_
                refine k_top (y := 1) (by decide +kernel) ?_
                refine lv_iadd hx hb dX7_readLink_93 ?_
                refine k_top (y := 17) (by decide +kernel) ?_
                refine lv_iload_n hx hb dX7_readLink_94 rfl (lv_at hl49 0 rfl) ?_
                refine k_iast kx hK hP47 hD48 hS46 2 rfl 17 rfl (by decide) (by decide) dX7_readLink_95 (fun H50 locs50 hP50 hD50 hS50 => ?_)
                have hP51 : va_P G.1 vwCl ([(h0, .inr (7, cM (upd (upd (upd Z 2 (nI L)) 3 (nI (((((1 + 1) + 1) + 1) + 1) + 1))) 6 0) q1 q2 q3 q4 q5 q6 q7 q8 q9 q10 q11 sd)), (q1, .inl (G.2.1, 70, .inl tx)), (q2, .inl (G.2.1, 55, .inl (upd (upd (upd (upd (upd F2 0 ((tx 1) - 48)) 1 ((tx (1 + 1)) - 48)) 2 ((tx ((1 + 1) + 1)) - 48)) 16 ((tx (((1 + 1) + 1) + 1)) - 48)) 17 ((tx ((((1 + 1) + 1) + 1) + 1)) - 48)))), (q3, .inl (G.2.1, 70, .inl re))]) H50 := hP50
                have hD52 : va_D A ([(h0, .inr (7, cM (upd (upd (upd Z 2 (nI L)) 3 (nI (((((1 + 1) + 1) + 1) + 1) + 1))) 6 0) q1 q2 q3 q4 q5 q6 q7 q8 q9 q10 q11 sd)), (q1, .inl (G.2.1, 70, .inl tx)), (q2, .inl (G.2.1, 55, .inl (upd (upd (upd (upd (upd F2 0 ((tx 1) - 48)) 1 ((tx (1 + 1)) - 48)) 2 ((tx ((1 + 1) + 1)) - 48)) 16 ((tx (((1 + 1) + 1) + 1)) - 48)) 17 ((tx ((((1 + 1) + 1) + 1) + 1)) - 48)))), (q3, .inl (G.2.1, 70, .inl re))]) := hD50
                refine lv_iinc (v := 5) (lv' := [(1, .int 5), (2, .int ((tx ((((1 + 1) + 1) + 1) + 1)) - 48)), (0, .ref h0)]) hx hb dX7_readLink_96 hl49 (k := 1) rfl (by decide +kernel) (by decide) rfl (fun ls53 hl53 => ?_)
                refine lv_goto (tgt := 44) hx hb dX7_readLink_99 (by decide) ?_
                refine lv_iload_n hx hb dX7_readLink_44 rfl (lv_at hl53 0 rfl) ?_
                refine lv_bipush (v := 6) hx hb dX7_readLink_45 (by decide) ?_
                refine lv_icmp_ge (x := 5) (y := 6) (tgt := 102) hx hb dX7_readLink_47 (by decide) (fun (c30 : 6 ≤ 5) => absurd c30 (by decide)) (fun (c30 : ¬ (6 ≤ 5)) => ?_)
                refine lv_aload_n hx hb dX7_readLink_50 rfl (lv_at hl53 2 rfl) ?_
                refine lv_iconst (v := 1) hx hb dX7_readLink_51 (by decide) ?_
                refine lv_iload_n hx hb dX7_readLink_52 rfl (lv_at hl53 0 rfl) ?_
                refine lv_iconst (v := 3) hx hb dX7_readLink_53 (by decide) ?_
                refine lv_irem hx hb dX7_readLink_54 (by decide) ?_
                refine k_top (y := 2) (by decide +kernel) ?_
                refine lv_iconst (v := 2) hx hb dX7_readLink_55 (by decide) ?_
                refine lv_icmp_ne (x := 2) (y := 2) (tgt := 63) hx hb dX7_readLink_56 (by decide) (fun (c31 : ¬ (2 = 2)) => absurd (by decide) c31) (fun (c31 : 2 = 2) => ?_)
                refine lv_iconst (v := 5) hx hb dX7_readLink_59 (by decide) ?_
                refine lv_goto (tgt := 65) hx hb dX7_readLink_60 (by decide) ?_
                by_cases c32 : kfig L tx (((((1 + 1) + 1) + 1) + 1) + 1) 1 5
                · skip
                  refine k_calli (kRunV (As := [.int 1, .int 5]) (rest := []) kx (c_X7_figure_ok_15 l G (upd (upd (upd Z 2 (nI L)) 3 (nI (((((1 + 1) + 1) + 1) + 1) + 1))) 6 0) L (((((1 + 1) + 1) + 1) + 1) + 1) sd h0 q1 q2 q3 q4 q5 q6 q7 q8 q9 q10 q11 tx hL c32) q_756 q_753 q_36 q_755 q_14 nX7_figure ⟨Nat.le_of_ble_eq_true rfl, Nat.le_of_ble_eq_true rfl⟩ hK hP51 hD52 (kCtx_places _ _ [0, 1] rfl rfl) 0 7 rfl rfl rfl rfl hl53.1 (Nat.le_of_ble_eq_true rfl) dX7_readLink_65 ⟨Nat.zero_le _, Nat.zero_le _⟩) hP51 hD52 hS50 hA (kCtx_places _ _ [0, 1] rfl rfl) (fun _ => rfl) (fun r33 _ H54 locs54 hw hP54 hD54 hS54 => ?_)
                  have hr33 : (tx (((((1 + 1) + 1) + 1) + 1) + 1)) - 48 = r33 := (show r33 = (tx (((((1 + 1) + 1) + 1) + 1) + 1)) - 48 from hw).symm
                  subst hr33
                  have hP55 : va_P G.1 vwCl ([(h0, .inr (7, cM (upd (upd (upd Z 2 (nI L)) 3 (nI ((((((1 + 1) + 1) + 1) + 1) + 1) + 1))) 6 0) q1 q2 q3 q4 q5 q6 q7 q8 q9 q10 q11 sd)), (q1, .inl (G.2.1, 70, .inl tx)), (q2, .inl (G.2.1, 55, .inl (upd (upd (upd (upd (upd F2 0 ((tx 1) - 48)) 1 ((tx (1 + 1)) - 48)) 2 ((tx ((1 + 1) + 1)) - 48)) 16 ((tx (((1 + 1) + 1) + 1)) - 48)) 17 ((tx ((((1 + 1) + 1) + 1) + 1)) - 48)))), (q3, .inl (G.2.1, 70, .inl re))]) H54 := hP54
                  have hD56 : va_D A ([(h0, .inr (7, cM (upd (upd (upd Z 2 (nI L)) 3 (nI ((((((1 + 1) + 1) + 1) + 1) + 1) + 1))) 6 0) q1 q2 q3 q4 q5 q6 q7 q8 q9 q10 q11 sd)), (q1, .inl (G.2.1, 70, .inl tx)), (q2, .inl (G.2.1, 55, .inl (upd (upd (upd (upd (upd F2 0 ((tx 1) - 48)) 1 ((tx (1 + 1)) - 48)) 2 ((tx ((1 + 1) + 1)) - 48)) 16 ((tx (((1 + 1) + 1) + 1)) - 48)) 17 ((tx ((((1 + 1) + 1) + 1) + 1)) - 48)))), (q3, .inl (G.2.1, 70, .inl re))]) := hD54
                  have hfc32 := c32.1
                  refine lv_istore_n (lv' := [(2, .int ((tx (((((1 + 1) + 1) + 1) + 1) + 1)) - 48)), (1, .int 5), (0, .ref h0)]) hx hb dX7_readLink_68 rfl hl53 (by decide) rfl (fun ls57 hl57 => ?_)
                  refine lv_iload_n hx hb dX7_readLink_69 rfl (lv_at hl57 0 rfl) ?_
                  refine lv_bipush (v := (-9)) hx hb dX7_readLink_70 (by decide) ?_
                  refine lv_icmp_ne (x := (tx (((((1 + 1) + 1) + 1) + 1) + 1)) - 48) (y := (-9)) (tgt := 80) hx hb dX7_readLink_72 (by decide) (fun (c34 : ¬ ((tx (((((1 + 1) + 1) + 1) + 1) + 1)) - 48 = (-9))) => ?_) (fun (c34 : (tx (((((1 + 1) + 1) + 1) + 1) + 1)) - 48 = (-9)) => absurd c34 (kfig_ne c32 (by decide)))
                  refine lv_aload_n hx hb dX7_readLink_80 rfl (lv_at hl57 2 rfl) ?_
                  refine va_get (ci := 7) (v := .ref q2) (C := RX7) (T := TX7) (N := 22) hx hb ht inX7 hown hK.1 hP55 0 rfl rfl 4 (by decide) (ht _ q_670) (fun _ h9 => h9) rfl dX7_readLink_81 ?_
                  refine lv_bipush (v := 16) hx hb dX7_readLink_84 (by decide) ?_
                  refine lv_iload_n hx hb dX7_readLink_86 rfl (lv_at hl57 1 rfl) ?_
                  refine lv_iconst (v := 3) hx hb dX7_readLink_87 (by decide) ?_
                  refine lv_idiv hx hb dX7_readLink_88 (by decide) ?_
                  refine k_top (y := 1) (by decide +kernel) ?_
                  refine lv_imul hx hb dX7_readLink_89 ?_
                  refine k_top (y := 16) (by decide +kernel) ?_
                  refine lv_iload_n hx hb dX7_readLink_90 rfl (lv_at hl57 1 rfl) ?_
                  refine lv_iconst (v := 3) hx hb dX7_readLink_91 (by decide) ?_
                  refine lv_irem hx hb dX7_readLink_92 (by decide) ?_
                  refine k_top (y := 2) (by decide +kernel) ?_
                  refine lv_iadd hx hb dX7_readLink_93 ?_
                  refine k_top (y := 18) (by decide +kernel) ?_
                  refine lv_iload_n hx hb dX7_readLink_94 rfl (lv_at hl57 0 rfl) ?_
                  refine k_iast kx hK hP55 hD56 hS54 2 rfl 18 rfl (by decide) (by decide) dX7_readLink_95 (fun H58 locs58 hP58 hD58 hS58 => ?_)
                  have hP59 : va_P G.1 vwCl ([(h0, .inr (7, cM (upd (upd (upd Z 2 (nI L)) 3 (nI ((((((1 + 1) + 1) + 1) + 1) + 1) + 1))) 6 0) q1 q2 q3 q4 q5 q6 q7 q8 q9 q10 q11 sd)), (q1, .inl (G.2.1, 70, .inl tx)), (q2, .inl (G.2.1, 55, .inl (upd (upd (upd (upd (upd (upd F2 0 ((tx 1) - 48)) 1 ((tx (1 + 1)) - 48)) 2 ((tx ((1 + 1) + 1)) - 48)) 16 ((tx (((1 + 1) + 1) + 1)) - 48)) 17 ((tx ((((1 + 1) + 1) + 1) + 1)) - 48)) 18 ((tx (((((1 + 1) + 1) + 1) + 1) + 1)) - 48)))), (q3, .inl (G.2.1, 70, .inl re))]) H58 := hP58
                  have hD60 : va_D A ([(h0, .inr (7, cM (upd (upd (upd Z 2 (nI L)) 3 (nI ((((((1 + 1) + 1) + 1) + 1) + 1) + 1))) 6 0) q1 q2 q3 q4 q5 q6 q7 q8 q9 q10 q11 sd)), (q1, .inl (G.2.1, 70, .inl tx)), (q2, .inl (G.2.1, 55, .inl (upd (upd (upd (upd (upd (upd F2 0 ((tx 1) - 48)) 1 ((tx (1 + 1)) - 48)) 2 ((tx ((1 + 1) + 1)) - 48)) 16 ((tx (((1 + 1) + 1) + 1)) - 48)) 17 ((tx ((((1 + 1) + 1) + 1) + 1)) - 48)) 18 ((tx (((((1 + 1) + 1) + 1) + 1) + 1)) - 48)))), (q3, .inl (G.2.1, 70, .inl re))]) := hD58
                  refine lv_iinc (v := 6) (lv' := [(1, .int 6), (2, .int ((tx (((((1 + 1) + 1) + 1) + 1) + 1)) - 48)), (0, .ref h0)]) hx hb dX7_readLink_96 hl57 (k := 1) rfl (by decide +kernel) (by decide) rfl (fun ls61 hl61 => ?_)
                  refine lv_goto (tgt := 44) hx hb dX7_readLink_99 (by decide) ?_
                  refine lv_iload_n hx hb dX7_readLink_44 rfl (lv_at hl61 0 rfl) ?_
                  refine lv_bipush (v := 6) hx hb dX7_readLink_45 (by decide) ?_
                  refine lv_icmp_ge (x := 6) (y := 6) (tgt := 102) hx hb dX7_readLink_47 (by decide) (fun (c35 : 6 ≤ 6) => ?_) (fun (c35 : ¬ (6 ≤ 6)) => absurd (by decide) c35)
                  refine lv_aload_n hx hb dX7_readLink_102 rfl (lv_at hl61 2 rfl) ?_
                  refine va_get (ci := 7) (v := .ref q2) (C := RX7) (T := TX7) (N := 22) hx hb ht inX7 hown hK.1 hP59 0 rfl rfl 4 (by decide) (ht _ q_670) (fun _ h9 => h9) rfl dX7_readLink_103 ?_
                  refine lv_iconst (v := 0) hx hb dX7_readLink_106 (by decide) ?_
                  refine k_callv (kRunS (As := [.ref q2, .int 0]) (rest := []) kx (c_X7_useTold_0 l G (upd (upd (upd (upd (upd (upd F2 0 ((tx 1) - 48)) 1 ((tx (1 + 1)) - 48)) 2 ((tx ((1 + 1) + 1)) - 48)) 16 ((tx (((1 + 1) + 1) + 1)) - 48)) 17 ((tx ((((1 + 1) + 1) + 1) + 1)) - 48)) 18 ((tx (((((1 + 1) + 1) + 1) + 1) + 1)) - 48)) q2) q_759 q_757 q_36 q_758 nX7_useTold ⟨Nat.le_of_ble_eq_true rfl, Nat.le_of_ble_eq_true rfl⟩ hK hP59 hD60 (kCtx_places _ _ [2] rfl rfl) rfl hl61.1 (Nat.le_of_ble_eq_true rfl) dX7_readLink_107 ⟨Nat.zero_le _, Nat.zero_le _⟩) hP59 hD60 hS58 hA (kCtx_places _ _ [2] rfl rfl) (fun _ => rfl) (fun _ H62 locs62 hw hP62 hD62 hS62 => ?_)
                  have hP63 : va_P G.1 vwCl ([(h0, .inr (7, cM (upd (upd (upd Z 2 (nI L)) 3 (nI ((((((1 + 1) + 1) + 1) + 1) + 1) + 1))) 6 0) q1 q2 q3 q4 q5 q6 q7 q8 q9 q10 q11 sd)), (q1, .inl (G.2.1, 70, .inl tx)), (q2, .inl (G.2.1, 55, .inl (upd (upd (upd (upd (upd (upd (upd (upd F2 0 ((tx 1) - 48)) 1 ((tx (1 + 1)) - 48)) 2 ((tx ((1 + 1) + 1)) - 48)) 16 ((tx (((1 + 1) + 1) + 1)) - 48)) 17 ((tx ((((1 + 1) + 1) + 1) + 1)) - 48)) 18 ((tx (((((1 + 1) + 1) + 1) + 1) + 1)) - 48)) 3 ((tx 1) - 48)) 4 ((tx (1 + 1)) - 48)))), (q3, .inl (G.2.1, 70, .inl re))]) H62 := hP62
                  have hD64 : va_D A ([(h0, .inr (7, cM (upd (upd (upd Z 2 (nI L)) 3 (nI ((((((1 + 1) + 1) + 1) + 1) + 1) + 1))) 6 0) q1 q2 q3 q4 q5 q6 q7 q8 q9 q10 q11 sd)), (q1, .inl (G.2.1, 70, .inl tx)), (q2, .inl (G.2.1, 55, .inl (upd (upd (upd (upd (upd (upd (upd (upd F2 0 ((tx 1) - 48)) 1 ((tx (1 + 1)) - 48)) 2 ((tx ((1 + 1) + 1)) - 48)) 16 ((tx (((1 + 1) + 1) + 1)) - 48)) 17 ((tx ((((1 + 1) + 1) + 1) + 1)) - 48)) 18 ((tx (((((1 + 1) + 1) + 1) + 1) + 1)) - 48)) 3 ((tx 1) - 48)) 4 ((tx (1 + 1)) - 48)))), (q3, .inl (G.2.1, 70, .inl re))]) := hD62
                  refine lv_aload_n hx hb dX7_readLink_110 rfl (lv_at hl61 2 rfl) ?_
                  refine va_get (ci := 7) (v := .ref q2) (C := RX7) (T := TX7) (N := 22) hx hb ht inX7 hown hK.1 hP63 0 rfl rfl 4 (by decide) (ht _ q_670) (fun _ h9 => h9) rfl dX7_readLink_111 ?_
                  refine lv_bipush (v := 16) hx hb dX7_readLink_114 (by decide) ?_
                  refine k_callv (kRunS (As := [.ref q2, .int 16]) (rest := []) kx (c_X7_useTold_16 l G (upd (upd (upd (upd (upd (upd (upd (upd F2 0 ((tx 1) - 48)) 1 ((tx (1 + 1)) - 48)) 2 ((tx ((1 + 1) + 1)) - 48)) 16 ((tx (((1 + 1) + 1) + 1)) - 48)) 17 ((tx ((((1 + 1) + 1) + 1) + 1)) - 48)) 18 ((tx (((((1 + 1) + 1) + 1) + 1) + 1)) - 48)) 3 ((tx 1) - 48)) 4 ((tx (1 + 1)) - 48)) q2) q_759 q_757 q_36 q_758 nX7_useTold ⟨Nat.le_of_ble_eq_true rfl, Nat.le_of_ble_eq_true rfl⟩ hK hP63 hD64 (kCtx_places _ _ [2] rfl rfl) rfl hl61.1 (Nat.le_of_ble_eq_true rfl) dX7_readLink_116 ⟨Nat.zero_le _, Nat.zero_le _⟩) hP63 hD64 hS62 hA (kCtx_places _ _ [2] rfl rfl) (fun _ => rfl) (fun _ H65 locs65 hw hP65 hD65 hS65 => ?_)
                  have hP66 : va_P G.1 vwCl ([(h0, .inr (7, cM (upd (upd (upd Z 2 (nI L)) 3 (nI ((((((1 + 1) + 1) + 1) + 1) + 1) + 1))) 6 0) q1 q2 q3 q4 q5 q6 q7 q8 q9 q10 q11 sd)), (q1, .inl (G.2.1, 70, .inl tx)), (q2, .inl (G.2.1, 55, .inl (upd (upd (upd (upd (upd (upd (upd (upd (upd (upd F2 0 ((tx 1) - 48)) 1 ((tx (1 + 1)) - 48)) 2 ((tx ((1 + 1) + 1)) - 48)) 16 ((tx (((1 + 1) + 1) + 1)) - 48)) 17 ((tx ((((1 + 1) + 1) + 1) + 1)) - 48)) 18 ((tx (((((1 + 1) + 1) + 1) + 1) + 1)) - 48)) 3 ((tx 1) - 48)) 4 ((tx (1 + 1)) - 48)) 19 ((tx (((1 + 1) + 1) + 1)) - 48)) 20 ((tx ((((1 + 1) + 1) + 1) + 1)) - 48)))), (q3, .inl (G.2.1, 70, .inl re))]) H65 := hP65
                  have hD67 : va_D A ([(h0, .inr (7, cM (upd (upd (upd Z 2 (nI L)) 3 (nI ((((((1 + 1) + 1) + 1) + 1) + 1) + 1))) 6 0) q1 q2 q3 q4 q5 q6 q7 q8 q9 q10 q11 sd)), (q1, .inl (G.2.1, 70, .inl tx)), (q2, .inl (G.2.1, 55, .inl (upd (upd (upd (upd (upd (upd (upd (upd (upd (upd F2 0 ((tx 1) - 48)) 1 ((tx (1 + 1)) - 48)) 2 ((tx ((1 + 1) + 1)) - 48)) 16 ((tx (((1 + 1) + 1) + 1)) - 48)) 17 ((tx ((((1 + 1) + 1) + 1) + 1)) - 48)) 18 ((tx (((((1 + 1) + 1) + 1) + 1) + 1)) - 48)) 3 ((tx 1) - 48)) 4 ((tx (1 + 1)) - 48)) 19 ((tx (((1 + 1) + 1) + 1)) - 48)) 20 ((tx ((((1 + 1) + 1) + 1) + 1)) - 48)))), (q3, .inl (G.2.1, 70, .inl re))]) := hD65
                  subst hF2
                  have lp1 : ∀ (n1 j1 : Nat) (p_1 : Nat) (m_1 : Nat) (re_1 : Nat → Int32), j1 + n1 = (L + 1) → (hr_1 : r_X7_readLink L tx re = l_X7_readLink_1_r L tx n1 j1 p_1 m_1 re_1) → (hZ_1 : s_X7_readLink_Z Z L tx re = l_X7_readLink_1_Z Z L tx n1 j1 p_1 m_1 re_1) → (hrp_1 : s_X7_readLink_rp L tx rp re = l_X7_readLink_1_rp L tx rp n1 j1 p_1 m_1 re_1) → (hre_1 : s_X7_readLink_re L tx re = l_X7_readLink_1_re L tx n1 j1 p_1 m_1 re_1) → (hq1 : L < p_1 + n1) → (hp1 : p_1 ≤ L) → (hm1 : m_1 ≤ p_1) → ∀ (H : Heap) (locs : List Loc) (ls : Array Slot), va_P G.1 vwCl ([(h0, .inr (7, cM (upd (upd (upd Z 2 (nI L)) 3 (nI p_1)) 6 (nI m_1)) q1 q2 q3 q4 q5 q6 q7 q8 q9 q10 q11 sd)), (q1, .inl (G.2.1, 70, .inl tx)), (q2, .inl (G.2.1, 55, .inl (upd (upd (upd (upd (upd (upd (upd (upd (upd (upd (s_X7_layFirst_f rp) 0 ((tx 1) - 48)) 1 ((tx (1 + 1)) - 48)) 2 ((tx ((1 + 1) + 1)) - 48)) 16 ((tx (((1 + 1) + 1) + 1)) - 48)) 17 ((tx ((((1 + 1) + 1) + 1) + 1)) - 48)) 18 ((tx (((((1 + 1) + 1) + 1) + 1) + 1)) - 48)) 3 ((tx 1) - 48)) 4 ((tx (1 + 1)) - 48)) 19 ((tx (((1 + 1) + 1) + 1)) - 48)) 20 ((tx ((((1 + 1) + 1) + 1) + 1)) - 48)))), (q3, .inl (G.2.1, 70, .inl re_1))]) H → va_D A ([(h0, .inr (7, cM (upd (upd (upd Z 2 (nI L)) 3 (nI p_1)) 6 (nI m_1)) q1 q2 q3 q4 q5 q6 q7 q8 q9 q10 q11 sd)), (q1, .inl (G.2.1, 70, .inl tx)), (q2, .inl (G.2.1, 55, .inl (upd (upd (upd (upd (upd (upd (upd (upd (upd (upd (s_X7_layFirst_f rp) 0 ((tx 1) - 48)) 1 ((tx (1 + 1)) - 48)) 2 ((tx ((1 + 1) + 1)) - 48)) 16 ((tx (((1 + 1) + 1) + 1)) - 48)) 17 ((tx ((((1 + 1) + 1) + 1) + 1)) - 48)) 18 ((tx (((((1 + 1) + 1) + 1) + 1) + 1)) - 48)) 3 ((tx 1) - 48)) 4 ((tx (1 + 1)) - 48)) 19 ((tx (((1 + 1) + 1) + 1)) - 48)) 20 ((tx ((((1 + 1) + 1) + 1) + 1)) - 48)))), (q3, .inl (G.2.1, 70, .inl re_1))]) → va_S A s.heap H locs → lv_has ls 3 [(0, .ref h0)] → W p l e (kr 3) s m args below meth c H locs 0 0 (MQ below (qI G (fun (r : Int32) (u : ((Nat → Int32) × (Nat → Int32) × (Nat → Int32))) => r = r_X7_readLink L tx re ∧ u.1 = s_X7_readLink_Z Z L tx re ∧ u.2.1 = s_X7_readLink_rp L tx rp re ∧ u.2.2 = s_X7_readLink_re L tx re) (fun u => [(h0, .inr (7, cM u.1 q1 q2 q3 q4 q5 q6 q7 q8 q9 q10 q11 sd)), (q1, .inl (G.2.1, 70, .inl tx)), (q2, .inl (G.2.1, 55, .inl u.2.1)), (q3, .inl (G.2.1, 70, .inl u.2.2))]) A) args s 0 0 A) (F0 m 119 ls []) := by
                    intro n1
                    induction n1 with
                    | zero =>
                      intro j1 p_1 m_1 re_1 hj1 hr_1 hZ_1 hrp_1 hre_1 hq1 hp1 hm1 H68 locs68 ls68 hP68 hD68 hS68 hl68
                      refine lv_aload_n hx hb dX7_readLink_119 rfl (lv_at hl68 0 rfl) ?_
                      refine va_get (ci := 7) (v := .int (nI p_1)) (C := RX7) (T := TX7) (N := 22) hx hb ht inX7 hown hK.1 hP68 0 rfl rfl 3 (by decide) (ht _ q_669) (fun _ h9 => h9) rfl dX7_readLink_120 ?_
                      refine lv_aload_n hx hb dX7_readLink_123 rfl (lv_at hl68 0 rfl) ?_
                      refine va_get (ci := 7) (v := .int (nI L)) (C := RX7) (T := TX7) (N := 22) hx hb ht inX7 hown hK.1 hP68 0 rfl rfl 2 (by decide) (ht _ q_668) (fun _ h9 => h9) rfl dX7_readLink_124 ?_
                      refine lv_icmp_ge (x := nI p_1) (y := nI L) (tgt := 169) hx hb dX7_readLink_127 (by decide) (fun (c38 : nI L ≤ nI p_1) => ?_) (fun (c38 : ¬ (nI L ≤ nI p_1)) => absurd (nI_le (by omega) (by omega)) c38)
                      refine lv_bipush (v := (-9)) hx hb dX7_readLink_169 (by decide) ?_
                      have er : r_X7_readLink L tx re = (-9) := by rw [hr_1, l_X7_readLink_1_r]
                      have e0 : s_X7_readLink_Z Z L tx re = upd (upd (upd Z 2 (nI L)) 3 (nI p_1)) 6 (nI m_1) := by rw [hZ_1, l_X7_readLink_1_Z]
                      have e1 : s_X7_readLink_rp L tx rp re = upd (upd (upd (upd (upd (upd (upd (upd (upd (upd (s_X7_layFirst_f rp) 0 ((tx 1) - 48)) 1 ((tx (1 + 1)) - 48)) 2 ((tx ((1 + 1) + 1)) - 48)) 16 ((tx (((1 + 1) + 1) + 1)) - 48)) 17 ((tx ((((1 + 1) + 1) + 1) + 1)) - 48)) 18 ((tx (((((1 + 1) + 1) + 1) + 1) + 1)) - 48)) 3 ((tx 1) - 48)) 4 ((tx (1 + 1)) - 48)) 19 ((tx (((1 + 1) + 1) + 1)) - 48)) 20 ((tx ((((1 + 1) + 1) + 1) + 1)) - 48) := by rw [hrp_1, l_X7_readLink_1_rp]
                      have e2 : s_X7_readLink_re L tx re = re_1 := by rw [hre_1, l_X7_readLink_1_re]
                      exact k_iret kx hK hP68 hD68 hS68 (u := (upd (upd (upd Z 2 (nI L)) 3 (nI p_1)) 6 (nI m_1), upd (upd (upd (upd (upd (upd (upd (upd (upd (upd (s_X7_layFirst_f rp) 0 ((tx 1) - 48)) 1 ((tx (1 + 1)) - 48)) 2 ((tx ((1 + 1) + 1)) - 48)) 16 ((tx (((1 + 1) + 1) + 1)) - 48)) 17 ((tx ((((1 + 1) + 1) + 1) + 1)) - 48)) 18 ((tx (((((1 + 1) + 1) + 1) + 1) + 1)) - 48)) 3 ((tx 1) - 48)) 4 ((tx (1 + 1)) - 48)) 19 ((tx (((1 + 1) + 1) + 1)) - 48)) 20 ((tx ((((1 + 1) + 1) + 1) + 1)) - 48), re_1)) rfl ⟨er.symm, e0.symm, e1.symm, e2.symm⟩ dX7_readLink_171
                    | succ n1 ih1 =>
                      intro j1 p_1 m_1 re_1 hj1 hr_1 hZ_1 hrp_1 hre_1 hq1 hp1 hm1 H68 locs68 ls68 hP68 hD68 hS68 hl68
                      refine lv_aload_n hx hb dX7_readLink_119 rfl (lv_at hl68 0 rfl) ?_
                      refine va_get (ci := 7) (v := .int (nI p_1)) (C := RX7) (T := TX7) (N := 22) hx hb ht inX7 hown hK.1 hP68 0 rfl rfl 3 (by decide) (ht _ q_669) (fun _ h9 => h9) rfl dX7_readLink_120 ?_
                      refine lv_aload_n hx hb dX7_readLink_123 rfl (lv_at hl68 0 rfl) ?_
                      refine va_get (ci := 7) (v := .int (nI L)) (C := RX7) (T := TX7) (N := 22) hx hb ht inX7 hown hK.1 hP68 0 rfl rfl 2 (by decide) (ht _ q_668) (fun _ h9 => h9) rfl dX7_readLink_124 ?_
                      refine lv_icmp_ge (x := nI p_1) (y := nI L) (tgt := 169) hx hb dX7_readLink_127 (by decide) (fun (c39 : nI L ≤ nI p_1) => ?_) (fun (c39 : ¬ (nI L ≤ nI p_1)) => ?_)
                      · skip
                        refine lv_bipush (v := (-9)) hx hb dX7_readLink_169 (by decide) ?_
                        have er : r_X7_readLink L tx re = (-9) := by rw [hr_1, l_X7_readLink_1_r, if_pos c39]
                        have e0 : s_X7_readLink_Z Z L tx re = upd (upd (upd Z 2 (nI L)) 3 (nI p_1)) 6 (nI m_1) := by rw [hZ_1, l_X7_readLink_1_Z, if_pos c39]
                        have e1 : s_X7_readLink_rp L tx rp re = upd (upd (upd (upd (upd (upd (upd (upd (upd (upd (s_X7_layFirst_f rp) 0 ((tx 1) - 48)) 1 ((tx (1 + 1)) - 48)) 2 ((tx ((1 + 1) + 1)) - 48)) 16 ((tx (((1 + 1) + 1) + 1)) - 48)) 17 ((tx ((((1 + 1) + 1) + 1) + 1)) - 48)) 18 ((tx (((((1 + 1) + 1) + 1) + 1) + 1)) - 48)) 3 ((tx 1) - 48)) 4 ((tx (1 + 1)) - 48)) 19 ((tx (((1 + 1) + 1) + 1)) - 48)) 20 ((tx ((((1 + 1) + 1) + 1) + 1)) - 48) := by rw [hrp_1, l_X7_readLink_1_rp, if_pos c39]
                        have e2 : s_X7_readLink_re L tx re = re_1 := by rw [hre_1, l_X7_readLink_1_re, if_pos c39]
                        exact k_iret kx hK hP68 hD68 hS68 (u := (upd (upd (upd Z 2 (nI L)) 3 (nI p_1)) 6 (nI m_1), upd (upd (upd (upd (upd (upd (upd (upd (upd (upd (s_X7_layFirst_f rp) 0 ((tx 1) - 48)) 1 ((tx (1 + 1)) - 48)) 2 ((tx ((1 + 1) + 1)) - 48)) 16 ((tx (((1 + 1) + 1) + 1)) - 48)) 17 ((tx ((((1 + 1) + 1) + 1) + 1)) - 48)) 18 ((tx (((((1 + 1) + 1) + 1) + 1) + 1)) - 48)) 3 ((tx 1) - 48)) 4 ((tx (1 + 1)) - 48)) 19 ((tx (((1 + 1) + 1) + 1)) - 48)) 20 ((tx ((((1 + 1) + 1) + 1) + 1)) - 48), re_1)) rfl ⟨er.symm, e0.symm, e1.symm, e2.symm⟩ dX7_readLink_171
                      · skip
                        have ltc39 : p_1 < L := knle_lt c39 (by omega) (by omega)
                        refine lv_aload_n hx hb dX7_readLink_130 rfl (lv_at hl68 0 rfl) ?_
                        by_cases c40 : tx p_1 = 100
                        · skip
                          by_cases c41 : kfig L tx (p_1 + 1) 0 1
                          · skip
                            refine k_calli (kRunV (As := []) (rest := []) kx (c_X7_readEvent_d_ok l G (upd (upd (upd Z 2 (nI L)) 3 (nI p_1)) 6 (nI m_1)) L p_1 sd h0 q1 q2 q3 q4 q5 q6 q7 q8 q9 q10 q11 tx hL (by omega) c40 c41) q_763 q_760 q_36 q_762 q_15 nX7_readEvent ⟨Nat.le_of_ble_eq_true rfl, Nat.le_of_ble_eq_true rfl⟩ hK hP68 hD68 (kCtx_places _ _ [0, 1] rfl rfl) 0 7 rfl rfl rfl rfl hl68.1 (Nat.le_of_ble_eq_true rfl) dX7_readLink_131 ⟨Nat.zero_le _, Nat.zero_le _⟩) hP68 hD68 hS68 hA (kCtx_places _ _ [0, 1] rfl rfl) (fun _ => rfl) (fun r42 _ H69 locs69 hw hP69 hD69 hS69 => ?_)
                            have hr42 : 10 + ((tx (p_1 + 1)) - 48) = r42 := (show r42 = 10 + ((tx (p_1 + 1)) - 48) from hw).symm
                            subst hr42
                            have hP70 : va_P G.1 vwCl ([(h0, .inr (7, cM (upd (upd (upd Z 2 (nI L)) 3 (nI ((p_1 + 1) + 1))) 6 (nI m_1)) q1 q2 q3 q4 q5 q6 q7 q8 q9 q10 q11 sd)), (q1, .inl (G.2.1, 70, .inl tx)), (q2, .inl (G.2.1, 55, .inl (upd (upd (upd (upd (upd (upd (upd (upd (upd (upd (s_X7_layFirst_f rp) 0 ((tx 1) - 48)) 1 ((tx (1 + 1)) - 48)) 2 ((tx ((1 + 1) + 1)) - 48)) 16 ((tx (((1 + 1) + 1) + 1)) - 48)) 17 ((tx ((((1 + 1) + 1) + 1) + 1)) - 48)) 18 ((tx (((((1 + 1) + 1) + 1) + 1) + 1)) - 48)) 3 ((tx 1) - 48)) 4 ((tx (1 + 1)) - 48)) 19 ((tx (((1 + 1) + 1) + 1)) - 48)) 20 ((tx ((((1 + 1) + 1) + 1) + 1)) - 48)))), (q3, .inl (G.2.1, 70, .inl re_1))]) H69 := hP69
                            have hD71 : va_D A ([(h0, .inr (7, cM (upd (upd (upd Z 2 (nI L)) 3 (nI ((p_1 + 1) + 1))) 6 (nI m_1)) q1 q2 q3 q4 q5 q6 q7 q8 q9 q10 q11 sd)), (q1, .inl (G.2.1, 70, .inl tx)), (q2, .inl (G.2.1, 55, .inl (upd (upd (upd (upd (upd (upd (upd (upd (upd (upd (s_X7_layFirst_f rp) 0 ((tx 1) - 48)) 1 ((tx (1 + 1)) - 48)) 2 ((tx ((1 + 1) + 1)) - 48)) 16 ((tx (((1 + 1) + 1) + 1)) - 48)) 17 ((tx ((((1 + 1) + 1) + 1) + 1)) - 48)) 18 ((tx (((((1 + 1) + 1) + 1) + 1) + 1)) - 48)) 3 ((tx 1) - 48)) 4 ((tx (1 + 1)) - 48)) 19 ((tx (((1 + 1) + 1) + 1)) - 48)) 20 ((tx ((((1 + 1) + 1) + 1) + 1)) - 48)))), (q3, .inl (G.2.1, 70, .inl re_1))]) := hD69
                            have hfc41 := c41.1
                            refine lv_istore_n (lv' := [(1, .int (10 + ((tx (p_1 + 1)) - 48))), (0, .ref h0)]) hx hb dX7_readLink_134 rfl hl68 (by decide) rfl (fun ls72 hl72 => ?_)
                            refine lv_iload_n hx hb dX7_readLink_135 rfl (lv_at hl72 0 rfl) ?_
                            refine lv_bipush (v := (-9)) hx hb dX7_readLink_136 (by decide) ?_
                            refine lv_icmp_ne (x := 10 + ((tx (p_1 + 1)) - 48)) (y := (-9)) (tgt := 146) hx hb dX7_readLink_138 (by decide) (fun (c43 : ¬ (10 + ((tx (p_1 + 1)) - 48) = (-9))) => ?_) (fun (c43 : 10 + ((tx (p_1 + 1)) - 48) = (-9)) => absurd c43 (kfig_ne10 c41))
                            refine lv_aload_n hx hb dX7_readLink_146 rfl (lv_at hl72 1 rfl) ?_
                            refine va_get (ci := 7) (v := .ref q3) (C := RX7) (T := TX7) (N := 22) hx hb ht inX7 hown hK.1 hP70 0 rfl rfl 5 (by decide) (ht _ q_671) (fun _ h9 => h9) rfl dX7_readLink_147 ?_
                            refine lv_aload_n hx hb dX7_readLink_150 rfl (lv_at hl72 1 rfl) ?_
                            refine va_get (ci := 7) (v := .int (nI m_1)) (C := RX7) (T := TX7) (N := 22) hx hb ht inX7 hown hK.1 hP70 0 rfl rfl 6 (by decide) (ht _ q_672) (fun _ h9 => h9) rfl dX7_readLink_151 ?_
                            refine lv_iload_n hx hb dX7_readLink_154 rfl (lv_at hl72 0 rfl) ?_
                            refine k_iast kx hK hP70 hD71 hS69 3 rfl m_1 rfl (by omega) (by decide) dX7_readLink_155 (fun H73 locs73 hP73 hD73 hS73 => ?_)
                            have hP74 : va_P G.1 vwCl ([(h0, .inr (7, cM (upd (upd (upd Z 2 (nI L)) 3 (nI ((p_1 + 1) + 1))) 6 (nI m_1)) q1 q2 q3 q4 q5 q6 q7 q8 q9 q10 q11 sd)), (q1, .inl (G.2.1, 70, .inl tx)), (q2, .inl (G.2.1, 55, .inl (upd (upd (upd (upd (upd (upd (upd (upd (upd (upd (s_X7_layFirst_f rp) 0 ((tx 1) - 48)) 1 ((tx (1 + 1)) - 48)) 2 ((tx ((1 + 1) + 1)) - 48)) 16 ((tx (((1 + 1) + 1) + 1)) - 48)) 17 ((tx ((((1 + 1) + 1) + 1) + 1)) - 48)) 18 ((tx (((((1 + 1) + 1) + 1) + 1) + 1)) - 48)) 3 ((tx 1) - 48)) 4 ((tx (1 + 1)) - 48)) 19 ((tx (((1 + 1) + 1) + 1)) - 48)) 20 ((tx ((((1 + 1) + 1) + 1) + 1)) - 48)))), (q3, .inl (G.2.1, 70, .inl (upd re_1 m_1 (10 + ((tx (p_1 + 1)) - 48)))))]) H73 := hP73
                            have hD75 : va_D A ([(h0, .inr (7, cM (upd (upd (upd Z 2 (nI L)) 3 (nI ((p_1 + 1) + 1))) 6 (nI m_1)) q1 q2 q3 q4 q5 q6 q7 q8 q9 q10 q11 sd)), (q1, .inl (G.2.1, 70, .inl tx)), (q2, .inl (G.2.1, 55, .inl (upd (upd (upd (upd (upd (upd (upd (upd (upd (upd (s_X7_layFirst_f rp) 0 ((tx 1) - 48)) 1 ((tx (1 + 1)) - 48)) 2 ((tx ((1 + 1) + 1)) - 48)) 16 ((tx (((1 + 1) + 1) + 1)) - 48)) 17 ((tx ((((1 + 1) + 1) + 1) + 1)) - 48)) 18 ((tx (((((1 + 1) + 1) + 1) + 1) + 1)) - 48)) 3 ((tx 1) - 48)) 4 ((tx (1 + 1)) - 48)) 19 ((tx (((1 + 1) + 1) + 1)) - 48)) 20 ((tx ((((1 + 1) + 1) + 1) + 1)) - 48)))), (q3, .inl (G.2.1, 70, .inl (upd re_1 m_1 (10 + ((tx (p_1 + 1)) - 48)))))]) := hD73
                            refine lv_aload_n hx hb dX7_readLink_156 rfl (lv_at hl72 1 rfl) ?_
                            refine lv_dup hx hb dX7_readLink_157 rfl ?_
                            refine va_get (ci := 7) (v := .int (nI m_1)) (C := RX7) (T := TX7) (N := 22) hx hb ht inX7 hown hK.1 hP74 0 rfl rfl 6 (by decide) (ht _ q_672) (fun _ h9 => h9) rfl dX7_readLink_158 ?_
                            refine lv_iconst (v := 1) hx hb dX7_readLink_161 (by decide) ?_
                            refine lv_iadd hx hb dX7_readLink_162 ?_
                            refine k_top (y := nI (m_1 + 1)) (nI_1 _) ?_
                            refine va_put (ci := 7) (v := .int (nI (m_1 + 1))) (ty := .int) (C := RX7) (T := TX7) (N := 22) hx hb ht inX7 tyX7 tyX7_ok nmX7 hown hK.1 hP74 hD75 hS73 0 rfl rfl 6 (by decide) (ht _ q_672) (fun _ h9 => h9) rfl (by decide +kernel) rfl rfl (Nat.le_of_ble_eq_true rfl) dX7_readLink_163 (fun H76 locs76 hP76 hD76 hS76 => ?_)
                            have hP77 : va_P G.1 vwCl ([(h0, .inr (7, cM (upd (upd (upd (upd Z 2 (nI L)) 3 (nI ((p_1 + 1) + 1))) 6 (nI m_1)) 6 (nI (m_1 + 1))) q1 q2 q3 q4 q5 q6 q7 q8 q9 q10 q11 sd)), (q1, .inl (G.2.1, 70, .inl tx)), (q2, .inl (G.2.1, 55, .inl (upd (upd (upd (upd (upd (upd (upd (upd (upd (upd (s_X7_layFirst_f rp) 0 ((tx 1) - 48)) 1 ((tx (1 + 1)) - 48)) 2 ((tx ((1 + 1) + 1)) - 48)) 16 ((tx (((1 + 1) + 1) + 1)) - 48)) 17 ((tx ((((1 + 1) + 1) + 1) + 1)) - 48)) 18 ((tx (((((1 + 1) + 1) + 1) + 1) + 1)) - 48)) 3 ((tx 1) - 48)) 4 ((tx (1 + 1)) - 48)) 19 ((tx (((1 + 1) + 1) + 1)) - 48)) 20 ((tx ((((1 + 1) + 1) + 1) + 1)) - 48)))), (q3, .inl (G.2.1, 70, .inl (upd re_1 m_1 (10 + ((tx (p_1 + 1)) - 48)))))]) H76 := hP76
                            have hD78 : va_D A ([(h0, .inr (7, cM (upd (upd (upd (upd Z 2 (nI L)) 3 (nI ((p_1 + 1) + 1))) 6 (nI m_1)) 6 (nI (m_1 + 1))) q1 q2 q3 q4 q5 q6 q7 q8 q9 q10 q11 sd)), (q1, .inl (G.2.1, 70, .inl tx)), (q2, .inl (G.2.1, 55, .inl (upd (upd (upd (upd (upd (upd (upd (upd (upd (upd (s_X7_layFirst_f rp) 0 ((tx 1) - 48)) 1 ((tx (1 + 1)) - 48)) 2 ((tx ((1 + 1) + 1)) - 48)) 16 ((tx (((1 + 1) + 1) + 1)) - 48)) 17 ((tx ((((1 + 1) + 1) + 1) + 1)) - 48)) 18 ((tx (((((1 + 1) + 1) + 1) + 1) + 1)) - 48)) 3 ((tx 1) - 48)) 4 ((tx (1 + 1)) - 48)) 19 ((tx (((1 + 1) + 1) + 1)) - 48)) 20 ((tx ((((1 + 1) + 1) + 1) + 1)) - 48)))), (q3, .inl (G.2.1, 70, .inl (upd re_1 m_1 (10 + ((tx (p_1 + 1)) - 48)))))]) := hD76
                            refine lv_goto (tgt := 119) hx hb dX7_readLink_166 (by decide) ?_
                            have gr : r_X7_readLink L tx re = l_X7_readLink_1_r L tx n1 (j1 + 1) ((p_1 + 1) + 1) (m_1 + 1) (upd re_1 m_1 (10 + ((tx (p_1 + 1)) - 48))) := by rw [hr_1, l_X7_readLink_1_r, if_neg c39, if_pos c40, if_pos c41]
                            have gZ : s_X7_readLink_Z Z L tx re = l_X7_readLink_1_Z Z L tx n1 (j1 + 1) ((p_1 + 1) + 1) (m_1 + 1) (upd re_1 m_1 (10 + ((tx (p_1 + 1)) - 48))) := by rw [hZ_1, l_X7_readLink_1_Z, if_neg c39, if_pos c40, if_pos c41]
                            have grp : s_X7_readLink_rp L tx rp re = l_X7_readLink_1_rp L tx rp n1 (j1 + 1) ((p_1 + 1) + 1) (m_1 + 1) (upd re_1 m_1 (10 + ((tx (p_1 + 1)) - 48))) := by rw [hrp_1, l_X7_readLink_1_rp, if_neg c39, if_pos c40, if_pos c41]
                            have gre : s_X7_readLink_re L tx re = l_X7_readLink_1_re L tx n1 (j1 + 1) ((p_1 + 1) + 1) (m_1 + 1) (upd re_1 m_1 (10 + ((tx (p_1 + 1)) - 48))) := by rw [hre_1, l_X7_readLink_1_re, if_neg c39, if_pos c40, if_pos c41]
                            exact ih1 (j1 + 1) ((p_1 + 1) + 1) (m_1 + 1) (upd re_1 m_1 (10 + ((tx (p_1 + 1)) - 48))) (by omega) gr gZ grp gre (by omega) (by omega) (by omega) _ _ _ hP77 hD78 hS76 (lv_sub hl72 [1] rfl)
                          · skip
                            refine k_calli (kRunV (As := []) (rest := []) kx (c_X7_readEvent_d_no l G (upd (upd (upd Z 2 (nI L)) 3 (nI p_1)) 6 (nI m_1)) L p_1 sd h0 q1 q2 q3 q4 q5 q6 q7 q8 q9 q10 q11 tx hL (by omega) c40 c41) q_763 q_760 q_36 q_762 q_15 nX7_readEvent ⟨Nat.le_of_ble_eq_true rfl, Nat.le_of_ble_eq_true rfl⟩ hK hP68 hD68 (kCtx_places _ _ [0, 1] rfl rfl) 0 7 rfl rfl rfl rfl hl68.1 (Nat.le_of_ble_eq_true rfl) dX7_readLink_131 ⟨Nat.zero_le _, Nat.zero_le _⟩) hP68 hD68 hS68 hA (kCtx_places _ _ [0, 1] rfl rfl) (fun _ => rfl) (fun r44 _ H79 locs79 hw hP79 hD79 hS79 => ?_)
                            have hr44 : (-9) = r44 := (show r44 = (-9) from hw).symm
                            subst hr44
                            have hP80 : va_P G.1 vwCl ([(h0, .inr (7, cM (upd (upd (upd Z 2 (nI L)) 3 (nI (p_1 + 1))) 6 (nI m_1)) q1 q2 q3 q4 q5 q6 q7 q8 q9 q10 q11 sd)), (q1, .inl (G.2.1, 70, .inl tx)), (q2, .inl (G.2.1, 55, .inl (upd (upd (upd (upd (upd (upd (upd (upd (upd (upd (s_X7_layFirst_f rp) 0 ((tx 1) - 48)) 1 ((tx (1 + 1)) - 48)) 2 ((tx ((1 + 1) + 1)) - 48)) 16 ((tx (((1 + 1) + 1) + 1)) - 48)) 17 ((tx ((((1 + 1) + 1) + 1) + 1)) - 48)) 18 ((tx (((((1 + 1) + 1) + 1) + 1) + 1)) - 48)) 3 ((tx 1) - 48)) 4 ((tx (1 + 1)) - 48)) 19 ((tx (((1 + 1) + 1) + 1)) - 48)) 20 ((tx ((((1 + 1) + 1) + 1) + 1)) - 48)))), (q3, .inl (G.2.1, 70, .inl re_1))]) H79 := hP79
                            have hD81 : va_D A ([(h0, .inr (7, cM (upd (upd (upd Z 2 (nI L)) 3 (nI (p_1 + 1))) 6 (nI m_1)) q1 q2 q3 q4 q5 q6 q7 q8 q9 q10 q11 sd)), (q1, .inl (G.2.1, 70, .inl tx)), (q2, .inl (G.2.1, 55, .inl (upd (upd (upd (upd (upd (upd (upd (upd (upd (upd (s_X7_layFirst_f rp) 0 ((tx 1) - 48)) 1 ((tx (1 + 1)) - 48)) 2 ((tx ((1 + 1) + 1)) - 48)) 16 ((tx (((1 + 1) + 1) + 1)) - 48)) 17 ((tx ((((1 + 1) + 1) + 1) + 1)) - 48)) 18 ((tx (((((1 + 1) + 1) + 1) + 1) + 1)) - 48)) 3 ((tx 1) - 48)) 4 ((tx (1 + 1)) - 48)) 19 ((tx (((1 + 1) + 1) + 1)) - 48)) 20 ((tx ((((1 + 1) + 1) + 1) + 1)) - 48)))), (q3, .inl (G.2.1, 70, .inl re_1))]) := hD79
                            refine lv_istore_n (lv' := [(1, .int (-9)), (0, .ref h0)]) hx hb dX7_readLink_134 rfl hl68 (by decide) rfl (fun ls82 hl82 => ?_)
                            refine lv_iload_n hx hb dX7_readLink_135 rfl (lv_at hl82 0 rfl) ?_
                            refine lv_bipush (v := (-9)) hx hb dX7_readLink_136 (by decide) ?_
                            refine lv_icmp_ne (x := (-9)) (y := (-9)) (tgt := 146) hx hb dX7_readLink_138 (by decide) (fun (c45 : ¬ ((-9) = (-9))) => absurd (by decide) c45) (fun (c45 : (-9) = (-9)) => ?_)
                            refine lv_aload_n hx hb dX7_readLink_141 rfl (lv_at hl82 1 rfl) ?_
                            refine va_get (ci := 7) (v := .int (nI (p_1 + 1))) (C := RX7) (T := TX7) (N := 22) hx hb ht inX7 hown hK.1 hP80 0 rfl rfl 3 (by decide) (ht _ q_669) (fun _ h9 => h9) rfl dX7_readLink_142 ?_
                            have er : r_X7_readLink L tx re = nI (p_1 + 1) := by rw [hr_1, l_X7_readLink_1_r, if_neg c39, if_pos c40, if_neg c41]
                            have e0 : s_X7_readLink_Z Z L tx re = upd (upd (upd Z 2 (nI L)) 3 (nI (p_1 + 1))) 6 (nI m_1) := by rw [hZ_1, l_X7_readLink_1_Z, if_neg c39, if_pos c40, if_neg c41]
                            have e1 : s_X7_readLink_rp L tx rp re = upd (upd (upd (upd (upd (upd (upd (upd (upd (upd (s_X7_layFirst_f rp) 0 ((tx 1) - 48)) 1 ((tx (1 + 1)) - 48)) 2 ((tx ((1 + 1) + 1)) - 48)) 16 ((tx (((1 + 1) + 1) + 1)) - 48)) 17 ((tx ((((1 + 1) + 1) + 1) + 1)) - 48)) 18 ((tx (((((1 + 1) + 1) + 1) + 1) + 1)) - 48)) 3 ((tx 1) - 48)) 4 ((tx (1 + 1)) - 48)) 19 ((tx (((1 + 1) + 1) + 1)) - 48)) 20 ((tx ((((1 + 1) + 1) + 1) + 1)) - 48) := by rw [hrp_1, l_X7_readLink_1_rp, if_neg c39, if_pos c40, if_neg c41]
                            have e2 : s_X7_readLink_re L tx re = re_1 := by rw [hre_1, l_X7_readLink_1_re, if_neg c39, if_pos c40, if_neg c41]
                            exact k_iret kx hK hP80 hD81 hS79 (u := (upd (upd (upd Z 2 (nI L)) 3 (nI (p_1 + 1))) 6 (nI m_1), upd (upd (upd (upd (upd (upd (upd (upd (upd (upd (s_X7_layFirst_f rp) 0 ((tx 1) - 48)) 1 ((tx (1 + 1)) - 48)) 2 ((tx ((1 + 1) + 1)) - 48)) 16 ((tx (((1 + 1) + 1) + 1)) - 48)) 17 ((tx ((((1 + 1) + 1) + 1) + 1)) - 48)) 18 ((tx (((((1 + 1) + 1) + 1) + 1) + 1)) - 48)) 3 ((tx 1) - 48)) 4 ((tx (1 + 1)) - 48)) 19 ((tx (((1 + 1) + 1) + 1)) - 48)) 20 ((tx ((((1 + 1) + 1) + 1) + 1)) - 48), re_1)) rfl ⟨er.symm, e0.symm, e1.symm, e2.symm⟩ dX7_readLink_145
                        · skip
                          by_cases c46 : tx p_1 = 119
                          · skip
                            by_cases c47 : kfig L tx (p_1 + 1) 0 1
                            · skip
                              refine k_calli (kRunV (As := []) (rest := []) kx (c_X7_readEvent_w_ok l G (upd (upd (upd Z 2 (nI L)) 3 (nI p_1)) 6 (nI m_1)) L p_1 sd h0 q1 q2 q3 q4 q5 q6 q7 q8 q9 q10 q11 tx hL (by omega) c40 c46 c47) q_763 q_760 q_36 q_762 q_15 nX7_readEvent ⟨Nat.le_of_ble_eq_true rfl, Nat.le_of_ble_eq_true rfl⟩ hK hP68 hD68 (kCtx_places _ _ [0, 1] rfl rfl) 0 7 rfl rfl rfl rfl hl68.1 (Nat.le_of_ble_eq_true rfl) dX7_readLink_131 ⟨Nat.zero_le _, Nat.zero_le _⟩) hP68 hD68 hS68 hA (kCtx_places _ _ [0, 1] rfl rfl) (fun _ => rfl) (fun r48 _ H83 locs83 hw hP83 hD83 hS83 => ?_)
                              have hr48 : 20 + ((tx (p_1 + 1)) - 48) = r48 := (show r48 = 20 + ((tx (p_1 + 1)) - 48) from hw).symm
                              subst hr48
                              have hP84 : va_P G.1 vwCl ([(h0, .inr (7, cM (upd (upd (upd Z 2 (nI L)) 3 (nI ((p_1 + 1) + 1))) 6 (nI m_1)) q1 q2 q3 q4 q5 q6 q7 q8 q9 q10 q11 sd)), (q1, .inl (G.2.1, 70, .inl tx)), (q2, .inl (G.2.1, 55, .inl (upd (upd (upd (upd (upd (upd (upd (upd (upd (upd (s_X7_layFirst_f rp) 0 ((tx 1) - 48)) 1 ((tx (1 + 1)) - 48)) 2 ((tx ((1 + 1) + 1)) - 48)) 16 ((tx (((1 + 1) + 1) + 1)) - 48)) 17 ((tx ((((1 + 1) + 1) + 1) + 1)) - 48)) 18 ((tx (((((1 + 1) + 1) + 1) + 1) + 1)) - 48)) 3 ((tx 1) - 48)) 4 ((tx (1 + 1)) - 48)) 19 ((tx (((1 + 1) + 1) + 1)) - 48)) 20 ((tx ((((1 + 1) + 1) + 1) + 1)) - 48)))), (q3, .inl (G.2.1, 70, .inl re_1))]) H83 := hP83
                              have hD85 : va_D A ([(h0, .inr (7, cM (upd (upd (upd Z 2 (nI L)) 3 (nI ((p_1 + 1) + 1))) 6 (nI m_1)) q1 q2 q3 q4 q5 q6 q7 q8 q9 q10 q11 sd)), (q1, .inl (G.2.1, 70, .inl tx)), (q2, .inl (G.2.1, 55, .inl (upd (upd (upd (upd (upd (upd (upd (upd (upd (upd (s_X7_layFirst_f rp) 0 ((tx 1) - 48)) 1 ((tx (1 + 1)) - 48)) 2 ((tx ((1 + 1) + 1)) - 48)) 16 ((tx (((1 + 1) + 1) + 1)) - 48)) 17 ((tx ((((1 + 1) + 1) + 1) + 1)) - 48)) 18 ((tx (((((1 + 1) + 1) + 1) + 1) + 1)) - 48)) 3 ((tx 1) - 48)) 4 ((tx (1 + 1)) - 48)) 19 ((tx (((1 + 1) + 1) + 1)) - 48)) 20 ((tx ((((1 + 1) + 1) + 1) + 1)) - 48)))), (q3, .inl (G.2.1, 70, .inl re_1))]) := hD83
                              have hfc47 := c47.1
                              refine lv_istore_n (lv' := [(1, .int (20 + ((tx (p_1 + 1)) - 48))), (0, .ref h0)]) hx hb dX7_readLink_134 rfl hl68 (by decide) rfl (fun ls86 hl86 => ?_)
                              refine lv_iload_n hx hb dX7_readLink_135 rfl (lv_at hl86 0 rfl) ?_
                              refine lv_bipush (v := (-9)) hx hb dX7_readLink_136 (by decide) ?_
                              refine lv_icmp_ne (x := 20 + ((tx (p_1 + 1)) - 48)) (y := (-9)) (tgt := 146) hx hb dX7_readLink_138 (by decide) (fun (c49 : ¬ (20 + ((tx (p_1 + 1)) - 48) = (-9))) => ?_) (fun (c49 : 20 + ((tx (p_1 + 1)) - 48) = (-9)) => absurd c49 (kfig_ne20 c47))
                              refine lv_aload_n hx hb dX7_readLink_146 rfl (lv_at hl86 1 rfl) ?_
                              refine va_get (ci := 7) (v := .ref q3) (C := RX7) (T := TX7) (N := 22) hx hb ht inX7 hown hK.1 hP84 0 rfl rfl 5 (by decide) (ht _ q_671) (fun _ h9 => h9) rfl dX7_readLink_147 ?_
                              refine lv_aload_n hx hb dX7_readLink_150 rfl (lv_at hl86 1 rfl) ?_
                              refine va_get (ci := 7) (v := .int (nI m_1)) (C := RX7) (T := TX7) (N := 22) hx hb ht inX7 hown hK.1 hP84 0 rfl rfl 6 (by decide) (ht _ q_672) (fun _ h9 => h9) rfl dX7_readLink_151 ?_
                              refine lv_iload_n hx hb dX7_readLink_154 rfl (lv_at hl86 0 rfl) ?_
                              refine k_iast kx hK hP84 hD85 hS83 3 rfl m_1 rfl (by omega) (by decide) dX7_readLink_155 (fun H87 locs87 hP87 hD87 hS87 => ?_)
                              have hP88 : va_P G.1 vwCl ([(h0, .inr (7, cM (upd (upd (upd Z 2 (nI L)) 3 (nI ((p_1 + 1) + 1))) 6 (nI m_1)) q1 q2 q3 q4 q5 q6 q7 q8 q9 q10 q11 sd)), (q1, .inl (G.2.1, 70, .inl tx)), (q2, .inl (G.2.1, 55, .inl (upd (upd (upd (upd (upd (upd (upd (upd (upd (upd (s_X7_layFirst_f rp) 0 ((tx 1) - 48)) 1 ((tx (1 + 1)) - 48)) 2 ((tx ((1 + 1) + 1)) - 48)) 16 ((tx (((1 + 1) + 1) + 1)) - 48)) 17 ((tx ((((1 + 1) + 1) + 1) + 1)) - 48)) 18 ((tx (((((1 + 1) + 1) + 1) + 1) + 1)) - 48)) 3 ((tx 1) - 48)) 4 ((tx (1 + 1)) - 48)) 19 ((tx (((1 + 1) + 1) + 1)) - 48)) 20 ((tx ((((1 + 1) + 1) + 1) + 1)) - 48)))), (q3, .inl (G.2.1, 70, .inl (upd re_1 m_1 (20 + ((tx (p_1 + 1)) - 48)))))]) H87 := hP87
                              have hD89 : va_D A ([(h0, .inr (7, cM (upd (upd (upd Z 2 (nI L)) 3 (nI ((p_1 + 1) + 1))) 6 (nI m_1)) q1 q2 q3 q4 q5 q6 q7 q8 q9 q10 q11 sd)), (q1, .inl (G.2.1, 70, .inl tx)), (q2, .inl (G.2.1, 55, .inl (upd (upd (upd (upd (upd (upd (upd (upd (upd (upd (s_X7_layFirst_f rp) 0 ((tx 1) - 48)) 1 ((tx (1 + 1)) - 48)) 2 ((tx ((1 + 1) + 1)) - 48)) 16 ((tx (((1 + 1) + 1) + 1)) - 48)) 17 ((tx ((((1 + 1) + 1) + 1) + 1)) - 48)) 18 ((tx (((((1 + 1) + 1) + 1) + 1) + 1)) - 48)) 3 ((tx 1) - 48)) 4 ((tx (1 + 1)) - 48)) 19 ((tx (((1 + 1) + 1) + 1)) - 48)) 20 ((tx ((((1 + 1) + 1) + 1) + 1)) - 48)))), (q3, .inl (G.2.1, 70, .inl (upd re_1 m_1 (20 + ((tx (p_1 + 1)) - 48)))))]) := hD87
                              refine lv_aload_n hx hb dX7_readLink_156 rfl (lv_at hl86 1 rfl) ?_
                              refine lv_dup hx hb dX7_readLink_157 rfl ?_
                              refine va_get (ci := 7) (v := .int (nI m_1)) (C := RX7) (T := TX7) (N := 22) hx hb ht inX7 hown hK.1 hP88 0 rfl rfl 6 (by decide) (ht _ q_672) (fun _ h9 => h9) rfl dX7_readLink_158 ?_
                              refine lv_iconst (v := 1) hx hb dX7_readLink_161 (by decide) ?_
                              refine lv_iadd hx hb dX7_readLink_162 ?_
                              refine k_top (y := nI (m_1 + 1)) (nI_1 _) ?_
                              refine va_put (ci := 7) (v := .int (nI (m_1 + 1))) (ty := .int) (C := RX7) (T := TX7) (N := 22) hx hb ht inX7 tyX7 tyX7_ok nmX7 hown hK.1 hP88 hD89 hS87 0 rfl rfl 6 (by decide) (ht _ q_672) (fun _ h9 => h9) rfl (by decide +kernel) rfl rfl (Nat.le_of_ble_eq_true rfl) dX7_readLink_163 (fun H90 locs90 hP90 hD90 hS90 => ?_)
                              have hP91 : va_P G.1 vwCl ([(h0, .inr (7, cM (upd (upd (upd (upd Z 2 (nI L)) 3 (nI ((p_1 + 1) + 1))) 6 (nI m_1)) 6 (nI (m_1 + 1))) q1 q2 q3 q4 q5 q6 q7 q8 q9 q10 q11 sd)), (q1, .inl (G.2.1, 70, .inl tx)), (q2, .inl (G.2.1, 55, .inl (upd (upd (upd (upd (upd (upd (upd (upd (upd (upd (s_X7_layFirst_f rp) 0 ((tx 1) - 48)) 1 ((tx (1 + 1)) - 48)) 2 ((tx ((1 + 1) + 1)) - 48)) 16 ((tx (((1 + 1) + 1) + 1)) - 48)) 17 ((tx ((((1 + 1) + 1) + 1) + 1)) - 48)) 18 ((tx (((((1 + 1) + 1) + 1) + 1) + 1)) - 48)) 3 ((tx 1) - 48)) 4 ((tx (1 + 1)) - 48)) 19 ((tx (((1 + 1) + 1) + 1)) - 48)) 20 ((tx ((((1 + 1) + 1) + 1) + 1)) - 48)))), (q3, .inl (G.2.1, 70, .inl (upd re_1 m_1 (20 + ((tx (p_1 + 1)) - 48)))))]) H90 := hP90
                              have hD92 : va_D A ([(h0, .inr (7, cM (upd (upd (upd (upd Z 2 (nI L)) 3 (nI ((p_1 + 1) + 1))) 6 (nI m_1)) 6 (nI (m_1 + 1))) q1 q2 q3 q4 q5 q6 q7 q8 q9 q10 q11 sd)), (q1, .inl (G.2.1, 70, .inl tx)), (q2, .inl (G.2.1, 55, .inl (upd (upd (upd (upd (upd (upd (upd (upd (upd (upd (s_X7_layFirst_f rp) 0 ((tx 1) - 48)) 1 ((tx (1 + 1)) - 48)) 2 ((tx ((1 + 1) + 1)) - 48)) 16 ((tx (((1 + 1) + 1) + 1)) - 48)) 17 ((tx ((((1 + 1) + 1) + 1) + 1)) - 48)) 18 ((tx (((((1 + 1) + 1) + 1) + 1) + 1)) - 48)) 3 ((tx 1) - 48)) 4 ((tx (1 + 1)) - 48)) 19 ((tx (((1 + 1) + 1) + 1)) - 48)) 20 ((tx ((((1 + 1) + 1) + 1) + 1)) - 48)))), (q3, .inl (G.2.1, 70, .inl (upd re_1 m_1 (20 + ((tx (p_1 + 1)) - 48)))))]) := hD90
                              refine lv_goto (tgt := 119) hx hb dX7_readLink_166 (by decide) ?_
                              have gr : r_X7_readLink L tx re = l_X7_readLink_1_r L tx n1 (j1 + 1) ((p_1 + 1) + 1) (m_1 + 1) (upd re_1 m_1 (20 + ((tx (p_1 + 1)) - 48))) := by rw [hr_1, l_X7_readLink_1_r, if_neg c39, if_neg c40, if_pos c46, if_pos c47]
                              have gZ : s_X7_readLink_Z Z L tx re = l_X7_readLink_1_Z Z L tx n1 (j1 + 1) ((p_1 + 1) + 1) (m_1 + 1) (upd re_1 m_1 (20 + ((tx (p_1 + 1)) - 48))) := by rw [hZ_1, l_X7_readLink_1_Z, if_neg c39, if_neg c40, if_pos c46, if_pos c47]
                              have grp : s_X7_readLink_rp L tx rp re = l_X7_readLink_1_rp L tx rp n1 (j1 + 1) ((p_1 + 1) + 1) (m_1 + 1) (upd re_1 m_1 (20 + ((tx (p_1 + 1)) - 48))) := by rw [hrp_1, l_X7_readLink_1_rp, if_neg c39, if_neg c40, if_pos c46, if_pos c47]
                              have gre : s_X7_readLink_re L tx re = l_X7_readLink_1_re L tx n1 (j1 + 1) ((p_1 + 1) + 1) (m_1 + 1) (upd re_1 m_1 (20 + ((tx (p_1 + 1)) - 48))) := by rw [hre_1, l_X7_readLink_1_re, if_neg c39, if_neg c40, if_pos c46, if_pos c47]
                              exact ih1 (j1 + 1) ((p_1 + 1) + 1) (m_1 + 1) (upd re_1 m_1 (20 + ((tx (p_1 + 1)) - 48))) (by omega) gr gZ grp gre (by omega) (by omega) (by omega) _ _ _ hP91 hD92 hS90 (lv_sub hl86 [1] rfl)
                            · skip
                              refine k_calli (kRunV (As := []) (rest := []) kx (c_X7_readEvent_w_no l G (upd (upd (upd Z 2 (nI L)) 3 (nI p_1)) 6 (nI m_1)) L p_1 sd h0 q1 q2 q3 q4 q5 q6 q7 q8 q9 q10 q11 tx hL (by omega) c40 c46 c47) q_763 q_760 q_36 q_762 q_15 nX7_readEvent ⟨Nat.le_of_ble_eq_true rfl, Nat.le_of_ble_eq_true rfl⟩ hK hP68 hD68 (kCtx_places _ _ [0, 1] rfl rfl) 0 7 rfl rfl rfl rfl hl68.1 (Nat.le_of_ble_eq_true rfl) dX7_readLink_131 ⟨Nat.zero_le _, Nat.zero_le _⟩) hP68 hD68 hS68 hA (kCtx_places _ _ [0, 1] rfl rfl) (fun _ => rfl) (fun r50 _ H93 locs93 hw hP93 hD93 hS93 => ?_)
                              have hr50 : (-9) = r50 := (show r50 = (-9) from hw).symm
                              subst hr50
                              have hP94 : va_P G.1 vwCl ([(h0, .inr (7, cM (upd (upd (upd Z 2 (nI L)) 3 (nI (p_1 + 1))) 6 (nI m_1)) q1 q2 q3 q4 q5 q6 q7 q8 q9 q10 q11 sd)), (q1, .inl (G.2.1, 70, .inl tx)), (q2, .inl (G.2.1, 55, .inl (upd (upd (upd (upd (upd (upd (upd (upd (upd (upd (s_X7_layFirst_f rp) 0 ((tx 1) - 48)) 1 ((tx (1 + 1)) - 48)) 2 ((tx ((1 + 1) + 1)) - 48)) 16 ((tx (((1 + 1) + 1) + 1)) - 48)) 17 ((tx ((((1 + 1) + 1) + 1) + 1)) - 48)) 18 ((tx (((((1 + 1) + 1) + 1) + 1) + 1)) - 48)) 3 ((tx 1) - 48)) 4 ((tx (1 + 1)) - 48)) 19 ((tx (((1 + 1) + 1) + 1)) - 48)) 20 ((tx ((((1 + 1) + 1) + 1) + 1)) - 48)))), (q3, .inl (G.2.1, 70, .inl re_1))]) H93 := hP93
                              have hD95 : va_D A ([(h0, .inr (7, cM (upd (upd (upd Z 2 (nI L)) 3 (nI (p_1 + 1))) 6 (nI m_1)) q1 q2 q3 q4 q5 q6 q7 q8 q9 q10 q11 sd)), (q1, .inl (G.2.1, 70, .inl tx)), (q2, .inl (G.2.1, 55, .inl (upd (upd (upd (upd (upd (upd (upd (upd (upd (upd (s_X7_layFirst_f rp) 0 ((tx 1) - 48)) 1 ((tx (1 + 1)) - 48)) 2 ((tx ((1 + 1) + 1)) - 48)) 16 ((tx (((1 + 1) + 1) + 1)) - 48)) 17 ((tx ((((1 + 1) + 1) + 1) + 1)) - 48)) 18 ((tx (((((1 + 1) + 1) + 1) + 1) + 1)) - 48)) 3 ((tx 1) - 48)) 4 ((tx (1 + 1)) - 48)) 19 ((tx (((1 + 1) + 1) + 1)) - 48)) 20 ((tx ((((1 + 1) + 1) + 1) + 1)) - 48)))), (q3, .inl (G.2.1, 70, .inl re_1))]) := hD93
                              refine lv_istore_n (lv' := [(1, .int (-9)), (0, .ref h0)]) hx hb dX7_readLink_134 rfl hl68 (by decide) rfl (fun ls96 hl96 => ?_)
                              refine lv_iload_n hx hb dX7_readLink_135 rfl (lv_at hl96 0 rfl) ?_
                              refine lv_bipush (v := (-9)) hx hb dX7_readLink_136 (by decide) ?_
                              refine lv_icmp_ne (x := (-9)) (y := (-9)) (tgt := 146) hx hb dX7_readLink_138 (by decide) (fun (c51 : ¬ ((-9) = (-9))) => absurd (by decide) c51) (fun (c51 : (-9) = (-9)) => ?_)
                              refine lv_aload_n hx hb dX7_readLink_141 rfl (lv_at hl96 1 rfl) ?_
                              refine va_get (ci := 7) (v := .int (nI (p_1 + 1))) (C := RX7) (T := TX7) (N := 22) hx hb ht inX7 hown hK.1 hP94 0 rfl rfl 3 (by decide) (ht _ q_669) (fun _ h9 => h9) rfl dX7_readLink_142 ?_
                              have er : r_X7_readLink L tx re = nI (p_1 + 1) := by rw [hr_1, l_X7_readLink_1_r, if_neg c39, if_neg c40, if_pos c46, if_neg c47]
                              have e0 : s_X7_readLink_Z Z L tx re = upd (upd (upd Z 2 (nI L)) 3 (nI (p_1 + 1))) 6 (nI m_1) := by rw [hZ_1, l_X7_readLink_1_Z, if_neg c39, if_neg c40, if_pos c46, if_neg c47]
                              have e1 : s_X7_readLink_rp L tx rp re = upd (upd (upd (upd (upd (upd (upd (upd (upd (upd (s_X7_layFirst_f rp) 0 ((tx 1) - 48)) 1 ((tx (1 + 1)) - 48)) 2 ((tx ((1 + 1) + 1)) - 48)) 16 ((tx (((1 + 1) + 1) + 1)) - 48)) 17 ((tx ((((1 + 1) + 1) + 1) + 1)) - 48)) 18 ((tx (((((1 + 1) + 1) + 1) + 1) + 1)) - 48)) 3 ((tx 1) - 48)) 4 ((tx (1 + 1)) - 48)) 19 ((tx (((1 + 1) + 1) + 1)) - 48)) 20 ((tx ((((1 + 1) + 1) + 1) + 1)) - 48) := by rw [hrp_1, l_X7_readLink_1_rp, if_neg c39, if_neg c40, if_pos c46, if_neg c47]
                              have e2 : s_X7_readLink_re L tx re = re_1 := by rw [hre_1, l_X7_readLink_1_re, if_neg c39, if_neg c40, if_pos c46, if_neg c47]
                              exact k_iret kx hK hP94 hD95 hS93 (u := (upd (upd (upd Z 2 (nI L)) 3 (nI (p_1 + 1))) 6 (nI m_1), upd (upd (upd (upd (upd (upd (upd (upd (upd (upd (s_X7_layFirst_f rp) 0 ((tx 1) - 48)) 1 ((tx (1 + 1)) - 48)) 2 ((tx ((1 + 1) + 1)) - 48)) 16 ((tx (((1 + 1) + 1) + 1)) - 48)) 17 ((tx ((((1 + 1) + 1) + 1) + 1)) - 48)) 18 ((tx (((((1 + 1) + 1) + 1) + 1) + 1)) - 48)) 3 ((tx 1) - 48)) 4 ((tx (1 + 1)) - 48)) 19 ((tx (((1 + 1) + 1) + 1)) - 48)) 20 ((tx ((((1 + 1) + 1) + 1) + 1)) - 48), re_1)) rfl ⟨er.symm, e0.symm, e1.symm, e2.symm⟩ dX7_readLink_145
                          · skip
                            by_cases c52 : kfig L tx p_1 1 9
                            · skip
                              refine k_calli (kRunV (As := []) (rest := []) kx (c_X7_readEvent_f_ok l G (upd (upd (upd Z 2 (nI L)) 3 (nI p_1)) 6 (nI m_1)) L p_1 sd h0 q1 q2 q3 q4 q5 q6 q7 q8 q9 q10 q11 tx hL (by omega) c40 c46 c52) q_763 q_760 q_36 q_762 q_15 nX7_readEvent ⟨Nat.le_of_ble_eq_true rfl, Nat.le_of_ble_eq_true rfl⟩ hK hP68 hD68 (kCtx_places _ _ [0, 1] rfl rfl) 0 7 rfl rfl rfl rfl hl68.1 (Nat.le_of_ble_eq_true rfl) dX7_readLink_131 ⟨Nat.zero_le _, Nat.zero_le _⟩) hP68 hD68 hS68 hA (kCtx_places _ _ [0, 1] rfl rfl) (fun _ => rfl) (fun r53 _ H97 locs97 hw hP97 hD97 hS97 => ?_)
                              have hr53 : (tx p_1) - 48 = r53 := (show r53 = (tx p_1) - 48 from hw).symm
                              subst hr53
                              have hP98 : va_P G.1 vwCl ([(h0, .inr (7, cM (upd (upd (upd Z 2 (nI L)) 3 (nI (p_1 + 1))) 6 (nI m_1)) q1 q2 q3 q4 q5 q6 q7 q8 q9 q10 q11 sd)), (q1, .inl (G.2.1, 70, .inl tx)), (q2, .inl (G.2.1, 55, .inl (upd (upd (upd (upd (upd (upd (upd (upd (upd (upd (s_X7_layFirst_f rp) 0 ((tx 1) - 48)) 1 ((tx (1 + 1)) - 48)) 2 ((tx ((1 + 1) + 1)) - 48)) 16 ((tx (((1 + 1) + 1) + 1)) - 48)) 17 ((tx ((((1 + 1) + 1) + 1) + 1)) - 48)) 18 ((tx (((((1 + 1) + 1) + 1) + 1) + 1)) - 48)) 3 ((tx 1) - 48)) 4 ((tx (1 + 1)) - 48)) 19 ((tx (((1 + 1) + 1) + 1)) - 48)) 20 ((tx ((((1 + 1) + 1) + 1) + 1)) - 48)))), (q3, .inl (G.2.1, 70, .inl re_1))]) H97 := hP97
                              have hD99 : va_D A ([(h0, .inr (7, cM (upd (upd (upd Z 2 (nI L)) 3 (nI (p_1 + 1))) 6 (nI m_1)) q1 q2 q3 q4 q5 q6 q7 q8 q9 q10 q11 sd)), (q1, .inl (G.2.1, 70, .inl tx)), (q2, .inl (G.2.1, 55, .inl (upd (upd (upd (upd (upd (upd (upd (upd (upd (upd (s_X7_layFirst_f rp) 0 ((tx 1) - 48)) 1 ((tx (1 + 1)) - 48)) 2 ((tx ((1 + 1) + 1)) - 48)) 16 ((tx (((1 + 1) + 1) + 1)) - 48)) 17 ((tx ((((1 + 1) + 1) + 1) + 1)) - 48)) 18 ((tx (((((1 + 1) + 1) + 1) + 1) + 1)) - 48)) 3 ((tx 1) - 48)) 4 ((tx (1 + 1)) - 48)) 19 ((tx (((1 + 1) + 1) + 1)) - 48)) 20 ((tx ((((1 + 1) + 1) + 1) + 1)) - 48)))), (q3, .inl (G.2.1, 70, .inl re_1))]) := hD97
                              have hfc52 := c52.1
                              refine lv_istore_n (lv' := [(1, .int ((tx p_1) - 48)), (0, .ref h0)]) hx hb dX7_readLink_134 rfl hl68 (by decide) rfl (fun ls100 hl100 => ?_)
                              refine lv_iload_n hx hb dX7_readLink_135 rfl (lv_at hl100 0 rfl) ?_
                              refine lv_bipush (v := (-9)) hx hb dX7_readLink_136 (by decide) ?_
                              refine lv_icmp_ne (x := (tx p_1) - 48) (y := (-9)) (tgt := 146) hx hb dX7_readLink_138 (by decide) (fun (c54 : ¬ ((tx p_1) - 48 = (-9))) => ?_) (fun (c54 : (tx p_1) - 48 = (-9)) => absurd c54 (kfig_ne c52 (by decide)))
                              refine lv_aload_n hx hb dX7_readLink_146 rfl (lv_at hl100 1 rfl) ?_
                              refine va_get (ci := 7) (v := .ref q3) (C := RX7) (T := TX7) (N := 22) hx hb ht inX7 hown hK.1 hP98 0 rfl rfl 5 (by decide) (ht _ q_671) (fun _ h9 => h9) rfl dX7_readLink_147 ?_
                              refine lv_aload_n hx hb dX7_readLink_150 rfl (lv_at hl100 1 rfl) ?_
                              refine va_get (ci := 7) (v := .int (nI m_1)) (C := RX7) (T := TX7) (N := 22) hx hb ht inX7 hown hK.1 hP98 0 rfl rfl 6 (by decide) (ht _ q_672) (fun _ h9 => h9) rfl dX7_readLink_151 ?_
                              refine lv_iload_n hx hb dX7_readLink_154 rfl (lv_at hl100 0 rfl) ?_
                              refine k_iast kx hK hP98 hD99 hS97 3 rfl m_1 rfl (by omega) (by decide) dX7_readLink_155 (fun H101 locs101 hP101 hD101 hS101 => ?_)
                              have hP102 : va_P G.1 vwCl ([(h0, .inr (7, cM (upd (upd (upd Z 2 (nI L)) 3 (nI (p_1 + 1))) 6 (nI m_1)) q1 q2 q3 q4 q5 q6 q7 q8 q9 q10 q11 sd)), (q1, .inl (G.2.1, 70, .inl tx)), (q2, .inl (G.2.1, 55, .inl (upd (upd (upd (upd (upd (upd (upd (upd (upd (upd (s_X7_layFirst_f rp) 0 ((tx 1) - 48)) 1 ((tx (1 + 1)) - 48)) 2 ((tx ((1 + 1) + 1)) - 48)) 16 ((tx (((1 + 1) + 1) + 1)) - 48)) 17 ((tx ((((1 + 1) + 1) + 1) + 1)) - 48)) 18 ((tx (((((1 + 1) + 1) + 1) + 1) + 1)) - 48)) 3 ((tx 1) - 48)) 4 ((tx (1 + 1)) - 48)) 19 ((tx (((1 + 1) + 1) + 1)) - 48)) 20 ((tx ((((1 + 1) + 1) + 1) + 1)) - 48)))), (q3, .inl (G.2.1, 70, .inl (upd re_1 m_1 ((tx p_1) - 48))))]) H101 := hP101
                              have hD103 : va_D A ([(h0, .inr (7, cM (upd (upd (upd Z 2 (nI L)) 3 (nI (p_1 + 1))) 6 (nI m_1)) q1 q2 q3 q4 q5 q6 q7 q8 q9 q10 q11 sd)), (q1, .inl (G.2.1, 70, .inl tx)), (q2, .inl (G.2.1, 55, .inl (upd (upd (upd (upd (upd (upd (upd (upd (upd (upd (s_X7_layFirst_f rp) 0 ((tx 1) - 48)) 1 ((tx (1 + 1)) - 48)) 2 ((tx ((1 + 1) + 1)) - 48)) 16 ((tx (((1 + 1) + 1) + 1)) - 48)) 17 ((tx ((((1 + 1) + 1) + 1) + 1)) - 48)) 18 ((tx (((((1 + 1) + 1) + 1) + 1) + 1)) - 48)) 3 ((tx 1) - 48)) 4 ((tx (1 + 1)) - 48)) 19 ((tx (((1 + 1) + 1) + 1)) - 48)) 20 ((tx ((((1 + 1) + 1) + 1) + 1)) - 48)))), (q3, .inl (G.2.1, 70, .inl (upd re_1 m_1 ((tx p_1) - 48))))]) := hD101
                              refine lv_aload_n hx hb dX7_readLink_156 rfl (lv_at hl100 1 rfl) ?_
                              refine lv_dup hx hb dX7_readLink_157 rfl ?_
                              refine va_get (ci := 7) (v := .int (nI m_1)) (C := RX7) (T := TX7) (N := 22) hx hb ht inX7 hown hK.1 hP102 0 rfl rfl 6 (by decide) (ht _ q_672) (fun _ h9 => h9) rfl dX7_readLink_158 ?_
                              refine lv_iconst (v := 1) hx hb dX7_readLink_161 (by decide) ?_
                              refine lv_iadd hx hb dX7_readLink_162 ?_
                              refine k_top (y := nI (m_1 + 1)) (nI_1 _) ?_
                              refine va_put (ci := 7) (v := .int (nI (m_1 + 1))) (ty := .int) (C := RX7) (T := TX7) (N := 22) hx hb ht inX7 tyX7 tyX7_ok nmX7 hown hK.1 hP102 hD103 hS101 0 rfl rfl 6 (by decide) (ht _ q_672) (fun _ h9 => h9) rfl (by decide +kernel) rfl rfl (Nat.le_of_ble_eq_true rfl) dX7_readLink_163 (fun H104 locs104 hP104 hD104 hS104 => ?_)
                              have hP105 : va_P G.1 vwCl ([(h0, .inr (7, cM (upd (upd (upd (upd Z 2 (nI L)) 3 (nI (p_1 + 1))) 6 (nI m_1)) 6 (nI (m_1 + 1))) q1 q2 q3 q4 q5 q6 q7 q8 q9 q10 q11 sd)), (q1, .inl (G.2.1, 70, .inl tx)), (q2, .inl (G.2.1, 55, .inl (upd (upd (upd (upd (upd (upd (upd (upd (upd (upd (s_X7_layFirst_f rp) 0 ((tx 1) - 48)) 1 ((tx (1 + 1)) - 48)) 2 ((tx ((1 + 1) + 1)) - 48)) 16 ((tx (((1 + 1) + 1) + 1)) - 48)) 17 ((tx ((((1 + 1) + 1) + 1) + 1)) - 48)) 18 ((tx (((((1 + 1) + 1) + 1) + 1) + 1)) - 48)) 3 ((tx 1) - 48)) 4 ((tx (1 + 1)) - 48)) 19 ((tx (((1 + 1) + 1) + 1)) - 48)) 20 ((tx ((((1 + 1) + 1) + 1) + 1)) - 48)))), (q3, .inl (G.2.1, 70, .inl (upd re_1 m_1 ((tx p_1) - 48))))]) H104 := hP104
                              have hD106 : va_D A ([(h0, .inr (7, cM (upd (upd (upd (upd Z 2 (nI L)) 3 (nI (p_1 + 1))) 6 (nI m_1)) 6 (nI (m_1 + 1))) q1 q2 q3 q4 q5 q6 q7 q8 q9 q10 q11 sd)), (q1, .inl (G.2.1, 70, .inl tx)), (q2, .inl (G.2.1, 55, .inl (upd (upd (upd (upd (upd (upd (upd (upd (upd (upd (s_X7_layFirst_f rp) 0 ((tx 1) - 48)) 1 ((tx (1 + 1)) - 48)) 2 ((tx ((1 + 1) + 1)) - 48)) 16 ((tx (((1 + 1) + 1) + 1)) - 48)) 17 ((tx ((((1 + 1) + 1) + 1) + 1)) - 48)) 18 ((tx (((((1 + 1) + 1) + 1) + 1) + 1)) - 48)) 3 ((tx 1) - 48)) 4 ((tx (1 + 1)) - 48)) 19 ((tx (((1 + 1) + 1) + 1)) - 48)) 20 ((tx ((((1 + 1) + 1) + 1) + 1)) - 48)))), (q3, .inl (G.2.1, 70, .inl (upd re_1 m_1 ((tx p_1) - 48))))]) := hD104
                              refine lv_goto (tgt := 119) hx hb dX7_readLink_166 (by decide) ?_
                              have gr : r_X7_readLink L tx re = l_X7_readLink_1_r L tx n1 (j1 + 1) (p_1 + 1) (m_1 + 1) (upd re_1 m_1 ((tx p_1) - 48)) := by rw [hr_1, l_X7_readLink_1_r, if_neg c39, if_neg c40, if_neg c46, if_pos c52]
                              have gZ : s_X7_readLink_Z Z L tx re = l_X7_readLink_1_Z Z L tx n1 (j1 + 1) (p_1 + 1) (m_1 + 1) (upd re_1 m_1 ((tx p_1) - 48)) := by rw [hZ_1, l_X7_readLink_1_Z, if_neg c39, if_neg c40, if_neg c46, if_pos c52]
                              have grp : s_X7_readLink_rp L tx rp re = l_X7_readLink_1_rp L tx rp n1 (j1 + 1) (p_1 + 1) (m_1 + 1) (upd re_1 m_1 ((tx p_1) - 48)) := by rw [hrp_1, l_X7_readLink_1_rp, if_neg c39, if_neg c40, if_neg c46, if_pos c52]
                              have gre : s_X7_readLink_re L tx re = l_X7_readLink_1_re L tx n1 (j1 + 1) (p_1 + 1) (m_1 + 1) (upd re_1 m_1 ((tx p_1) - 48)) := by rw [hre_1, l_X7_readLink_1_re, if_neg c39, if_neg c40, if_neg c46, if_pos c52]
                              exact ih1 (j1 + 1) (p_1 + 1) (m_1 + 1) (upd re_1 m_1 ((tx p_1) - 48)) (by omega) gr gZ grp gre (by omega) (by omega) (by omega) _ _ _ hP105 hD106 hS104 (lv_sub hl100 [1] rfl)
                            · skip
                              refine k_calli (kRunV (As := []) (rest := []) kx (c_X7_readEvent_f_no l G (upd (upd (upd Z 2 (nI L)) 3 (nI p_1)) 6 (nI m_1)) L p_1 sd h0 q1 q2 q3 q4 q5 q6 q7 q8 q9 q10 q11 tx hL (by omega) c40 c46 c52) q_763 q_760 q_36 q_762 q_15 nX7_readEvent ⟨Nat.le_of_ble_eq_true rfl, Nat.le_of_ble_eq_true rfl⟩ hK hP68 hD68 (kCtx_places _ _ [0, 1] rfl rfl) 0 7 rfl rfl rfl rfl hl68.1 (Nat.le_of_ble_eq_true rfl) dX7_readLink_131 ⟨Nat.zero_le _, Nat.zero_le _⟩) hP68 hD68 hS68 hA (kCtx_places _ _ [0, 1] rfl rfl) (fun _ => rfl) (fun r55 _ H107 locs107 hw hP107 hD107 hS107 => ?_)
                              have hr55 : (-9) = r55 := (show r55 = (-9) from hw).symm
                              subst hr55
                              have hP108 : va_P G.1 vwCl ([(h0, .inr (7, cM (upd (upd (upd Z 2 (nI L)) 3 (nI p_1)) 6 (nI m_1)) q1 q2 q3 q4 q5 q6 q7 q8 q9 q10 q11 sd)), (q1, .inl (G.2.1, 70, .inl tx)), (q2, .inl (G.2.1, 55, .inl (upd (upd (upd (upd (upd (upd (upd (upd (upd (upd (s_X7_layFirst_f rp) 0 ((tx 1) - 48)) 1 ((tx (1 + 1)) - 48)) 2 ((tx ((1 + 1) + 1)) - 48)) 16 ((tx (((1 + 1) + 1) + 1)) - 48)) 17 ((tx ((((1 + 1) + 1) + 1) + 1)) - 48)) 18 ((tx (((((1 + 1) + 1) + 1) + 1) + 1)) - 48)) 3 ((tx 1) - 48)) 4 ((tx (1 + 1)) - 48)) 19 ((tx (((1 + 1) + 1) + 1)) - 48)) 20 ((tx ((((1 + 1) + 1) + 1) + 1)) - 48)))), (q3, .inl (G.2.1, 70, .inl re_1))]) H107 := hP107
                              have hD109 : va_D A ([(h0, .inr (7, cM (upd (upd (upd Z 2 (nI L)) 3 (nI p_1)) 6 (nI m_1)) q1 q2 q3 q4 q5 q6 q7 q8 q9 q10 q11 sd)), (q1, .inl (G.2.1, 70, .inl tx)), (q2, .inl (G.2.1, 55, .inl (upd (upd (upd (upd (upd (upd (upd (upd (upd (upd (s_X7_layFirst_f rp) 0 ((tx 1) - 48)) 1 ((tx (1 + 1)) - 48)) 2 ((tx ((1 + 1) + 1)) - 48)) 16 ((tx (((1 + 1) + 1) + 1)) - 48)) 17 ((tx ((((1 + 1) + 1) + 1) + 1)) - 48)) 18 ((tx (((((1 + 1) + 1) + 1) + 1) + 1)) - 48)) 3 ((tx 1) - 48)) 4 ((tx (1 + 1)) - 48)) 19 ((tx (((1 + 1) + 1) + 1)) - 48)) 20 ((tx ((((1 + 1) + 1) + 1) + 1)) - 48)))), (q3, .inl (G.2.1, 70, .inl re_1))]) := hD107
                              refine lv_istore_n (lv' := [(1, .int (-9)), (0, .ref h0)]) hx hb dX7_readLink_134 rfl hl68 (by decide) rfl (fun ls110 hl110 => ?_)
                              refine lv_iload_n hx hb dX7_readLink_135 rfl (lv_at hl110 0 rfl) ?_
                              refine lv_bipush (v := (-9)) hx hb dX7_readLink_136 (by decide) ?_
                              refine lv_icmp_ne (x := (-9)) (y := (-9)) (tgt := 146) hx hb dX7_readLink_138 (by decide) (fun (c56 : ¬ ((-9) = (-9))) => absurd (by decide) c56) (fun (c56 : (-9) = (-9)) => ?_)
                              refine lv_aload_n hx hb dX7_readLink_141 rfl (lv_at hl110 1 rfl) ?_
                              refine va_get (ci := 7) (v := .int (nI p_1)) (C := RX7) (T := TX7) (N := 22) hx hb ht inX7 hown hK.1 hP108 0 rfl rfl 3 (by decide) (ht _ q_669) (fun _ h9 => h9) rfl dX7_readLink_142 ?_
                              have er : r_X7_readLink L tx re = nI p_1 := by rw [hr_1, l_X7_readLink_1_r, if_neg c39, if_neg c40, if_neg c46, if_neg c52]
                              have e0 : s_X7_readLink_Z Z L tx re = upd (upd (upd Z 2 (nI L)) 3 (nI p_1)) 6 (nI m_1) := by rw [hZ_1, l_X7_readLink_1_Z, if_neg c39, if_neg c40, if_neg c46, if_neg c52]
                              have e1 : s_X7_readLink_rp L tx rp re = upd (upd (upd (upd (upd (upd (upd (upd (upd (upd (s_X7_layFirst_f rp) 0 ((tx 1) - 48)) 1 ((tx (1 + 1)) - 48)) 2 ((tx ((1 + 1) + 1)) - 48)) 16 ((tx (((1 + 1) + 1) + 1)) - 48)) 17 ((tx ((((1 + 1) + 1) + 1) + 1)) - 48)) 18 ((tx (((((1 + 1) + 1) + 1) + 1) + 1)) - 48)) 3 ((tx 1) - 48)) 4 ((tx (1 + 1)) - 48)) 19 ((tx (((1 + 1) + 1) + 1)) - 48)) 20 ((tx ((((1 + 1) + 1) + 1) + 1)) - 48) := by rw [hrp_1, l_X7_readLink_1_rp, if_neg c39, if_neg c40, if_neg c46, if_neg c52]
                              have e2 : s_X7_readLink_re L tx re = re_1 := by rw [hre_1, l_X7_readLink_1_re, if_neg c39, if_neg c40, if_neg c46, if_neg c52]
                              exact k_iret kx hK hP108 hD109 hS107 (u := (upd (upd (upd Z 2 (nI L)) 3 (nI p_1)) 6 (nI m_1), upd (upd (upd (upd (upd (upd (upd (upd (upd (upd (s_X7_layFirst_f rp) 0 ((tx 1) - 48)) 1 ((tx (1 + 1)) - 48)) 2 ((tx ((1 + 1) + 1)) - 48)) 16 ((tx (((1 + 1) + 1) + 1)) - 48)) 17 ((tx ((((1 + 1) + 1) + 1) + 1)) - 48)) 18 ((tx (((((1 + 1) + 1) + 1) + 1) + 1)) - 48)) 3 ((tx 1) - 48)) 4 ((tx (1 + 1)) - 48)) 19 ((tx (((1 + 1) + 1) + 1)) - 48)) 20 ((tx ((((1 + 1) + 1) + 1) + 1)) - 48), re_1)) rfl ⟨er.symm, e0.symm, e1.symm, e2.symm⟩ dX7_readLink_145
                  have gr : r_X7_readLink L tx re = l_X7_readLink_1_r L tx (L + 1) 0 ((((((1 + 1) + 1) + 1) + 1) + 1) + 1) 0 re := by rw [r_X7_readLink, if_neg c3, if_pos c4, if_pos c7, if_pos c12, if_pos c17, if_pos c22, if_pos c27, if_pos c32]
                  have gZ : s_X7_readLink_Z Z L tx re = l_X7_readLink_1_Z Z L tx (L + 1) 0 ((((((1 + 1) + 1) + 1) + 1) + 1) + 1) 0 re := by rw [s_X7_readLink_Z, if_neg c3, if_pos c4, if_pos c7, if_pos c12, if_pos c17, if_pos c22, if_pos c27, if_pos c32]
                  have grp : s_X7_readLink_rp L tx rp re = l_X7_readLink_1_rp L tx rp (L + 1) 0 ((((((1 + 1) + 1) + 1) + 1) + 1) + 1) 0 re := by rw [s_X7_readLink_rp, if_neg c3, if_pos c4, if_pos c7, if_pos c12, if_pos c17, if_pos c22, if_pos c27, if_pos c32]
                  have gre : s_X7_readLink_re L tx re = l_X7_readLink_1_re L tx (L + 1) 0 ((((((1 + 1) + 1) + 1) + 1) + 1) + 1) 0 re := by rw [s_X7_readLink_re, if_neg c3, if_pos c4, if_pos c7, if_pos c12, if_pos c17, if_pos c22, if_pos c27, if_pos c32]
                  exact lp1 (L + 1) 0 ((((((1 + 1) + 1) + 1) + 1) + 1) + 1) 0 re (by omega) gr gZ grp gre (by omega) (by omega) (by omega) _ _ _ hP66 hD67 hS65 (lv_sub hl61 [2] rfl)
                · skip
                  refine k_calli (kRunV (As := [.int 1, .int 5]) (rest := []) kx (c_X7_figure_no_15 l G (upd (upd (upd Z 2 (nI L)) 3 (nI (((((1 + 1) + 1) + 1) + 1) + 1))) 6 0) L (((((1 + 1) + 1) + 1) + 1) + 1) sd h0 q1 q2 q3 q4 q5 q6 q7 q8 q9 q10 q11 tx hL (by omega) c32) q_756 q_753 q_36 q_755 q_14 nX7_figure ⟨Nat.le_of_ble_eq_true rfl, Nat.le_of_ble_eq_true rfl⟩ hK hP51 hD52 (kCtx_places _ _ [0, 1] rfl rfl) 0 7 rfl rfl rfl rfl hl53.1 (Nat.le_of_ble_eq_true rfl) dX7_readLink_65 ⟨Nat.zero_le _, Nat.zero_le _⟩) hP51 hD52 hS50 hA (kCtx_places _ _ [0, 1] rfl rfl) (fun _ => rfl) (fun r57 _ H111 locs111 hw hP111 hD111 hS111 => ?_)
                  have hr57 : (-9) = r57 := (show r57 = (-9) from hw).symm
                  subst hr57
                  have hP112 : va_P G.1 vwCl ([(h0, .inr (7, cM (upd (upd (upd Z 2 (nI L)) 3 (nI (((((1 + 1) + 1) + 1) + 1) + 1))) 6 0) q1 q2 q3 q4 q5 q6 q7 q8 q9 q10 q11 sd)), (q1, .inl (G.2.1, 70, .inl tx)), (q2, .inl (G.2.1, 55, .inl (upd (upd (upd (upd (upd F2 0 ((tx 1) - 48)) 1 ((tx (1 + 1)) - 48)) 2 ((tx ((1 + 1) + 1)) - 48)) 16 ((tx (((1 + 1) + 1) + 1)) - 48)) 17 ((tx ((((1 + 1) + 1) + 1) + 1)) - 48)))), (q3, .inl (G.2.1, 70, .inl re))]) H111 := hP111
                  have hD113 : va_D A ([(h0, .inr (7, cM (upd (upd (upd Z 2 (nI L)) 3 (nI (((((1 + 1) + 1) + 1) + 1) + 1))) 6 0) q1 q2 q3 q4 q5 q6 q7 q8 q9 q10 q11 sd)), (q1, .inl (G.2.1, 70, .inl tx)), (q2, .inl (G.2.1, 55, .inl (upd (upd (upd (upd (upd F2 0 ((tx 1) - 48)) 1 ((tx (1 + 1)) - 48)) 2 ((tx ((1 + 1) + 1)) - 48)) 16 ((tx (((1 + 1) + 1) + 1)) - 48)) 17 ((tx ((((1 + 1) + 1) + 1) + 1)) - 48)))), (q3, .inl (G.2.1, 70, .inl re))]) := hD111
                  refine lv_istore_n (lv' := [(2, .int (-9)), (1, .int 5), (0, .ref h0)]) hx hb dX7_readLink_68 rfl hl53 (by decide) rfl (fun ls114 hl114 => ?_)
                  refine lv_iload_n hx hb dX7_readLink_69 rfl (lv_at hl114 0 rfl) ?_
                  refine lv_bipush (v := (-9)) hx hb dX7_readLink_70 (by decide) ?_
                  refine lv_icmp_ne (x := (-9)) (y := (-9)) (tgt := 80) hx hb dX7_readLink_72 (by decide) (fun (c58 : ¬ ((-9) = (-9))) => absurd (by decide) c58) (fun (c58 : (-9) = (-9)) => ?_)
                  refine lv_aload_n hx hb dX7_readLink_75 rfl (lv_at hl114 2 rfl) ?_
                  refine va_get (ci := 7) (v := .int (nI (((((1 + 1) + 1) + 1) + 1) + 1))) (C := RX7) (T := TX7) (N := 22) hx hb ht inX7 hown hK.1 hP112 0 rfl rfl 3 (by decide) (ht _ q_669) (fun _ h9 => h9) rfl dX7_readLink_76 ?_
                  have er : r_X7_readLink L tx re = nI (((((1 + 1) + 1) + 1) + 1) + 1) := by rw [r_X7_readLink]; (try rw [hF2]); rw [if_neg c3, if_pos c4, if_pos c7, if_pos c12, if_pos c17, if_pos c22, if_pos c27, if_neg c32]
                  have e0 : s_X7_readLink_Z Z L tx re = upd (upd (upd Z 2 (nI L)) 3 (nI (((((1 + 1) + 1) + 1) + 1) + 1))) 6 0 := by rw [s_X7_readLink_Z]; (try rw [hF2]); rw [if_neg c3, if_pos c4, if_pos c7, if_pos c12, if_pos c17, if_pos c22, if_pos c27, if_neg c32]
                  have e1 : s_X7_readLink_rp L tx rp re = upd (upd (upd (upd (upd F2 0 ((tx 1) - 48)) 1 ((tx (1 + 1)) - 48)) 2 ((tx ((1 + 1) + 1)) - 48)) 16 ((tx (((1 + 1) + 1) + 1)) - 48)) 17 ((tx ((((1 + 1) + 1) + 1) + 1)) - 48) := by rw [s_X7_readLink_rp]; (try rw [hF2]); rw [if_neg c3, if_pos c4, if_pos c7, if_pos c12, if_pos c17, if_pos c22, if_pos c27, if_neg c32]
                  have e2 : s_X7_readLink_re L tx re = re := by rw [s_X7_readLink_re]; (try rw [hF2]); rw [if_neg c3, if_pos c4, if_pos c7, if_pos c12, if_pos c17, if_pos c22, if_pos c27, if_neg c32]
                  exact k_iret kx hK hP112 hD113 hS111 (u := (upd (upd (upd Z 2 (nI L)) 3 (nI (((((1 + 1) + 1) + 1) + 1) + 1))) 6 0, upd (upd (upd (upd (upd F2 0 ((tx 1) - 48)) 1 ((tx (1 + 1)) - 48)) 2 ((tx ((1 + 1) + 1)) - 48)) 16 ((tx (((1 + 1) + 1) + 1)) - 48)) 17 ((tx ((((1 + 1) + 1) + 1) + 1)) - 48), re)) rfl ⟨er.symm, e0.symm, e1.symm, e2.symm⟩ dX7_readLink_79
              · skip
                refine k_calli (kRunV (As := [.int 1, .int 9]) (rest := []) kx (c_X7_figure_no_19 l G (upd (upd (upd Z 2 (nI L)) 3 (nI ((((1 + 1) + 1) + 1) + 1))) 6 0) L ((((1 + 1) + 1) + 1) + 1) sd h0 q1 q2 q3 q4 q5 q6 q7 q8 q9 q10 q11 tx hL (by omega) c27) q_756 q_753 q_36 q_755 q_14 nX7_figure ⟨Nat.le_of_ble_eq_true rfl, Nat.le_of_ble_eq_true rfl⟩ hK hP43 hD44 (kCtx_places _ _ [0, 1] rfl rfl) 0 7 rfl rfl rfl rfl hl45.1 (Nat.le_of_ble_eq_true rfl) dX7_readLink_65 ⟨Nat.zero_le _, Nat.zero_le _⟩) hP43 hD44 hS42 hA (kCtx_places _ _ [0, 1] rfl rfl) (fun _ => rfl) (fun r59 _ H115 locs115 hw hP115 hD115 hS115 => ?_)
                have hr59 : (-9) = r59 := (show r59 = (-9) from hw).symm
                subst hr59
                have hP116 : va_P G.1 vwCl ([(h0, .inr (7, cM (upd (upd (upd Z 2 (nI L)) 3 (nI ((((1 + 1) + 1) + 1) + 1))) 6 0) q1 q2 q3 q4 q5 q6 q7 q8 q9 q10 q11 sd)), (q1, .inl (G.2.1, 70, .inl tx)), (q2, .inl (G.2.1, 55, .inl (upd (upd (upd (upd F2 0 ((tx 1) - 48)) 1 ((tx (1 + 1)) - 48)) 2 ((tx ((1 + 1) + 1)) - 48)) 16 ((tx (((1 + 1) + 1) + 1)) - 48)))), (q3, .inl (G.2.1, 70, .inl re))]) H115 := hP115
                have hD117 : va_D A ([(h0, .inr (7, cM (upd (upd (upd Z 2 (nI L)) 3 (nI ((((1 + 1) + 1) + 1) + 1))) 6 0) q1 q2 q3 q4 q5 q6 q7 q8 q9 q10 q11 sd)), (q1, .inl (G.2.1, 70, .inl tx)), (q2, .inl (G.2.1, 55, .inl (upd (upd (upd (upd F2 0 ((tx 1) - 48)) 1 ((tx (1 + 1)) - 48)) 2 ((tx ((1 + 1) + 1)) - 48)) 16 ((tx (((1 + 1) + 1) + 1)) - 48)))), (q3, .inl (G.2.1, 70, .inl re))]) := hD115
                refine lv_istore_n (lv' := [(2, .int (-9)), (1, .int 4), (0, .ref h0)]) hx hb dX7_readLink_68 rfl hl45 (by decide) rfl (fun ls118 hl118 => ?_)
                refine lv_iload_n hx hb dX7_readLink_69 rfl (lv_at hl118 0 rfl) ?_
                refine lv_bipush (v := (-9)) hx hb dX7_readLink_70 (by decide) ?_
                refine lv_icmp_ne (x := (-9)) (y := (-9)) (tgt := 80) hx hb dX7_readLink_72 (by decide) (fun (c60 : ¬ ((-9) = (-9))) => absurd (by decide) c60) (fun (c60 : (-9) = (-9)) => ?_)
                refine lv_aload_n hx hb dX7_readLink_75 rfl (lv_at hl118 2 rfl) ?_
                refine va_get (ci := 7) (v := .int (nI ((((1 + 1) + 1) + 1) + 1))) (C := RX7) (T := TX7) (N := 22) hx hb ht inX7 hown hK.1 hP116 0 rfl rfl 3 (by decide) (ht _ q_669) (fun _ h9 => h9) rfl dX7_readLink_76 ?_
                have er : r_X7_readLink L tx re = nI ((((1 + 1) + 1) + 1) + 1) := by rw [r_X7_readLink]; (try rw [hF2]); rw [if_neg c3, if_pos c4, if_pos c7, if_pos c12, if_pos c17, if_pos c22, if_neg c27]
                have e0 : s_X7_readLink_Z Z L tx re = upd (upd (upd Z 2 (nI L)) 3 (nI ((((1 + 1) + 1) + 1) + 1))) 6 0 := by rw [s_X7_readLink_Z]; (try rw [hF2]); rw [if_neg c3, if_pos c4, if_pos c7, if_pos c12, if_pos c17, if_pos c22, if_neg c27]
                have e1 : s_X7_readLink_rp L tx rp re = upd (upd (upd (upd F2 0 ((tx 1) - 48)) 1 ((tx (1 + 1)) - 48)) 2 ((tx ((1 + 1) + 1)) - 48)) 16 ((tx (((1 + 1) + 1) + 1)) - 48) := by rw [s_X7_readLink_rp]; (try rw [hF2]); rw [if_neg c3, if_pos c4, if_pos c7, if_pos c12, if_pos c17, if_pos c22, if_neg c27]
                have e2 : s_X7_readLink_re L tx re = re := by rw [s_X7_readLink_re]; (try rw [hF2]); rw [if_neg c3, if_pos c4, if_pos c7, if_pos c12, if_pos c17, if_pos c22, if_neg c27]
                exact k_iret kx hK hP116 hD117 hS115 (u := (upd (upd (upd Z 2 (nI L)) 3 (nI ((((1 + 1) + 1) + 1) + 1))) 6 0, upd (upd (upd (upd F2 0 ((tx 1) - 48)) 1 ((tx (1 + 1)) - 48)) 2 ((tx ((1 + 1) + 1)) - 48)) 16 ((tx (((1 + 1) + 1) + 1)) - 48), re)) rfl ⟨er.symm, e0.symm, e1.symm, e2.symm⟩ dX7_readLink_79
            · skip
              refine k_calli (kRunV (As := [.int 1, .int 9]) (rest := []) kx (c_X7_figure_no_19 l G (upd (upd (upd Z 2 (nI L)) 3 (nI (((1 + 1) + 1) + 1))) 6 0) L (((1 + 1) + 1) + 1) sd h0 q1 q2 q3 q4 q5 q6 q7 q8 q9 q10 q11 tx hL (by omega) c22) q_756 q_753 q_36 q_755 q_14 nX7_figure ⟨Nat.le_of_ble_eq_true rfl, Nat.le_of_ble_eq_true rfl⟩ hK hP35 hD36 (kCtx_places _ _ [0, 1] rfl rfl) 0 7 rfl rfl rfl rfl hl37.1 (Nat.le_of_ble_eq_true rfl) dX7_readLink_65 ⟨Nat.zero_le _, Nat.zero_le _⟩) hP35 hD36 hS34 hA (kCtx_places _ _ [0, 1] rfl rfl) (fun _ => rfl) (fun r61 _ H119 locs119 hw hP119 hD119 hS119 => ?_)
              have hr61 : (-9) = r61 := (show r61 = (-9) from hw).symm
              subst hr61
              have hP120 : va_P G.1 vwCl ([(h0, .inr (7, cM (upd (upd (upd Z 2 (nI L)) 3 (nI (((1 + 1) + 1) + 1))) 6 0) q1 q2 q3 q4 q5 q6 q7 q8 q9 q10 q11 sd)), (q1, .inl (G.2.1, 70, .inl tx)), (q2, .inl (G.2.1, 55, .inl (upd (upd (upd F2 0 ((tx 1) - 48)) 1 ((tx (1 + 1)) - 48)) 2 ((tx ((1 + 1) + 1)) - 48)))), (q3, .inl (G.2.1, 70, .inl re))]) H119 := hP119
              have hD121 : va_D A ([(h0, .inr (7, cM (upd (upd (upd Z 2 (nI L)) 3 (nI (((1 + 1) + 1) + 1))) 6 0) q1 q2 q3 q4 q5 q6 q7 q8 q9 q10 q11 sd)), (q1, .inl (G.2.1, 70, .inl tx)), (q2, .inl (G.2.1, 55, .inl (upd (upd (upd F2 0 ((tx 1) - 48)) 1 ((tx (1 + 1)) - 48)) 2 ((tx ((1 + 1) + 1)) - 48)))), (q3, .inl (G.2.1, 70, .inl re))]) := hD119
              refine lv_istore_n (lv' := [(2, .int (-9)), (1, .int 3), (0, .ref h0)]) hx hb dX7_readLink_68 rfl hl37 (by decide) rfl (fun ls122 hl122 => ?_)
              refine lv_iload_n hx hb dX7_readLink_69 rfl (lv_at hl122 0 rfl) ?_
              refine lv_bipush (v := (-9)) hx hb dX7_readLink_70 (by decide) ?_
              refine lv_icmp_ne (x := (-9)) (y := (-9)) (tgt := 80) hx hb dX7_readLink_72 (by decide) (fun (c62 : ¬ ((-9) = (-9))) => absurd (by decide) c62) (fun (c62 : (-9) = (-9)) => ?_)
              refine lv_aload_n hx hb dX7_readLink_75 rfl (lv_at hl122 2 rfl) ?_
              refine va_get (ci := 7) (v := .int (nI (((1 + 1) + 1) + 1))) (C := RX7) (T := TX7) (N := 22) hx hb ht inX7 hown hK.1 hP120 0 rfl rfl 3 (by decide) (ht _ q_669) (fun _ h9 => h9) rfl dX7_readLink_76 ?_
              have er : r_X7_readLink L tx re = nI (((1 + 1) + 1) + 1) := by rw [r_X7_readLink]; (try rw [hF2]); rw [if_neg c3, if_pos c4, if_pos c7, if_pos c12, if_pos c17, if_neg c22]
              have e0 : s_X7_readLink_Z Z L tx re = upd (upd (upd Z 2 (nI L)) 3 (nI (((1 + 1) + 1) + 1))) 6 0 := by rw [s_X7_readLink_Z]; (try rw [hF2]); rw [if_neg c3, if_pos c4, if_pos c7, if_pos c12, if_pos c17, if_neg c22]
              have e1 : s_X7_readLink_rp L tx rp re = upd (upd (upd F2 0 ((tx 1) - 48)) 1 ((tx (1 + 1)) - 48)) 2 ((tx ((1 + 1) + 1)) - 48) := by rw [s_X7_readLink_rp]; (try rw [hF2]); rw [if_neg c3, if_pos c4, if_pos c7, if_pos c12, if_pos c17, if_neg c22]
              have e2 : s_X7_readLink_re L tx re = re := by rw [s_X7_readLink_re]; (try rw [hF2]); rw [if_neg c3, if_pos c4, if_pos c7, if_pos c12, if_pos c17, if_neg c22]
              exact k_iret kx hK hP120 hD121 hS119 (u := (upd (upd (upd Z 2 (nI L)) 3 (nI (((1 + 1) + 1) + 1))) 6 0, upd (upd (upd F2 0 ((tx 1) - 48)) 1 ((tx (1 + 1)) - 48)) 2 ((tx ((1 + 1) + 1)) - 48), re)) rfl ⟨er.symm, e0.symm, e1.symm, e2.symm⟩ dX7_readLink_79
          · skip
            refine k_calli (kRunV (As := [.int 1, .int 5]) (rest := []) kx (c_X7_figure_no_15 l G (upd (upd (upd Z 2 (nI L)) 3 (nI ((1 + 1) + 1))) 6 0) L ((1 + 1) + 1) sd h0 q1 q2 q3 q4 q5 q6 q7 q8 q9 q10 q11 tx hL (by omega) c17) q_756 q_753 q_36 q_755 q_14 nX7_figure ⟨Nat.le_of_ble_eq_true rfl, Nat.le_of_ble_eq_true rfl⟩ hK hP27 hD28 (kCtx_places _ _ [0, 1] rfl rfl) 0 7 rfl rfl rfl rfl hl29.1 (Nat.le_of_ble_eq_true rfl) dX7_readLink_65 ⟨Nat.zero_le _, Nat.zero_le _⟩) hP27 hD28 hS26 hA (kCtx_places _ _ [0, 1] rfl rfl) (fun _ => rfl) (fun r63 _ H123 locs123 hw hP123 hD123 hS123 => ?_)
            have hr63 : (-9) = r63 := (show r63 = (-9) from hw).symm
            subst hr63
            have hP124 : va_P G.1 vwCl ([(h0, .inr (7, cM (upd (upd (upd Z 2 (nI L)) 3 (nI ((1 + 1) + 1))) 6 0) q1 q2 q3 q4 q5 q6 q7 q8 q9 q10 q11 sd)), (q1, .inl (G.2.1, 70, .inl tx)), (q2, .inl (G.2.1, 55, .inl (upd (upd F2 0 ((tx 1) - 48)) 1 ((tx (1 + 1)) - 48)))), (q3, .inl (G.2.1, 70, .inl re))]) H123 := hP123
            have hD125 : va_D A ([(h0, .inr (7, cM (upd (upd (upd Z 2 (nI L)) 3 (nI ((1 + 1) + 1))) 6 0) q1 q2 q3 q4 q5 q6 q7 q8 q9 q10 q11 sd)), (q1, .inl (G.2.1, 70, .inl tx)), (q2, .inl (G.2.1, 55, .inl (upd (upd F2 0 ((tx 1) - 48)) 1 ((tx (1 + 1)) - 48)))), (q3, .inl (G.2.1, 70, .inl re))]) := hD123
            refine lv_istore_n (lv' := [(2, .int (-9)), (1, .int 2), (0, .ref h0)]) hx hb dX7_readLink_68 rfl hl29 (by decide) rfl (fun ls126 hl126 => ?_)
            refine lv_iload_n hx hb dX7_readLink_69 rfl (lv_at hl126 0 rfl) ?_
            refine lv_bipush (v := (-9)) hx hb dX7_readLink_70 (by decide) ?_
            refine lv_icmp_ne (x := (-9)) (y := (-9)) (tgt := 80) hx hb dX7_readLink_72 (by decide) (fun (c64 : ¬ ((-9) = (-9))) => absurd (by decide) c64) (fun (c64 : (-9) = (-9)) => ?_)
            refine lv_aload_n hx hb dX7_readLink_75 rfl (lv_at hl126 2 rfl) ?_
            refine va_get (ci := 7) (v := .int (nI ((1 + 1) + 1))) (C := RX7) (T := TX7) (N := 22) hx hb ht inX7 hown hK.1 hP124 0 rfl rfl 3 (by decide) (ht _ q_669) (fun _ h9 => h9) rfl dX7_readLink_76 ?_
            have er : r_X7_readLink L tx re = nI ((1 + 1) + 1) := by rw [r_X7_readLink]; (try rw [hF2]); rw [if_neg c3, if_pos c4, if_pos c7, if_pos c12, if_neg c17]
            have e0 : s_X7_readLink_Z Z L tx re = upd (upd (upd Z 2 (nI L)) 3 (nI ((1 + 1) + 1))) 6 0 := by rw [s_X7_readLink_Z]; (try rw [hF2]); rw [if_neg c3, if_pos c4, if_pos c7, if_pos c12, if_neg c17]
            have e1 : s_X7_readLink_rp L tx rp re = upd (upd F2 0 ((tx 1) - 48)) 1 ((tx (1 + 1)) - 48) := by rw [s_X7_readLink_rp]; (try rw [hF2]); rw [if_neg c3, if_pos c4, if_pos c7, if_pos c12, if_neg c17]
            have e2 : s_X7_readLink_re L tx re = re := by rw [s_X7_readLink_re]; (try rw [hF2]); rw [if_neg c3, if_pos c4, if_pos c7, if_pos c12, if_neg c17]
            exact k_iret kx hK hP124 hD125 hS123 (u := (upd (upd (upd Z 2 (nI L)) 3 (nI ((1 + 1) + 1))) 6 0, upd (upd F2 0 ((tx 1) - 48)) 1 ((tx (1 + 1)) - 48), re)) rfl ⟨er.symm, e0.symm, e1.symm, e2.symm⟩ dX7_readLink_79
        · skip
          refine k_calli (kRunV (As := [.int 1, .int 9]) (rest := []) kx (c_X7_figure_no_19 l G (upd (upd (upd Z 2 (nI L)) 3 (nI (1 + 1))) 6 0) L (1 + 1) sd h0 q1 q2 q3 q4 q5 q6 q7 q8 q9 q10 q11 tx hL (by omega) c12) q_756 q_753 q_36 q_755 q_14 nX7_figure ⟨Nat.le_of_ble_eq_true rfl, Nat.le_of_ble_eq_true rfl⟩ hK hP19 hD20 (kCtx_places _ _ [0, 1] rfl rfl) 0 7 rfl rfl rfl rfl hl21.1 (Nat.le_of_ble_eq_true rfl) dX7_readLink_65 ⟨Nat.zero_le _, Nat.zero_le _⟩) hP19 hD20 hS18 hA (kCtx_places _ _ [0, 1] rfl rfl) (fun _ => rfl) (fun r65 _ H127 locs127 hw hP127 hD127 hS127 => ?_)
          have hr65 : (-9) = r65 := (show r65 = (-9) from hw).symm
          subst hr65
          have hP128 : va_P G.1 vwCl ([(h0, .inr (7, cM (upd (upd (upd Z 2 (nI L)) 3 (nI (1 + 1))) 6 0) q1 q2 q3 q4 q5 q6 q7 q8 q9 q10 q11 sd)), (q1, .inl (G.2.1, 70, .inl tx)), (q2, .inl (G.2.1, 55, .inl (upd F2 0 ((tx 1) - 48)))), (q3, .inl (G.2.1, 70, .inl re))]) H127 := hP127
          have hD129 : va_D A ([(h0, .inr (7, cM (upd (upd (upd Z 2 (nI L)) 3 (nI (1 + 1))) 6 0) q1 q2 q3 q4 q5 q6 q7 q8 q9 q10 q11 sd)), (q1, .inl (G.2.1, 70, .inl tx)), (q2, .inl (G.2.1, 55, .inl (upd F2 0 ((tx 1) - 48)))), (q3, .inl (G.2.1, 70, .inl re))]) := hD127
          refine lv_istore_n (lv' := [(2, .int (-9)), (1, .int 1), (0, .ref h0)]) hx hb dX7_readLink_68 rfl hl21 (by decide) rfl (fun ls130 hl130 => ?_)
          refine lv_iload_n hx hb dX7_readLink_69 rfl (lv_at hl130 0 rfl) ?_
          refine lv_bipush (v := (-9)) hx hb dX7_readLink_70 (by decide) ?_
          refine lv_icmp_ne (x := (-9)) (y := (-9)) (tgt := 80) hx hb dX7_readLink_72 (by decide) (fun (c66 : ¬ ((-9) = (-9))) => absurd (by decide) c66) (fun (c66 : (-9) = (-9)) => ?_)
          refine lv_aload_n hx hb dX7_readLink_75 rfl (lv_at hl130 2 rfl) ?_
          refine va_get (ci := 7) (v := .int (nI (1 + 1))) (C := RX7) (T := TX7) (N := 22) hx hb ht inX7 hown hK.1 hP128 0 rfl rfl 3 (by decide) (ht _ q_669) (fun _ h9 => h9) rfl dX7_readLink_76 ?_
          have er : r_X7_readLink L tx re = nI (1 + 1) := by rw [r_X7_readLink]; (try rw [hF2]); rw [if_neg c3, if_pos c4, if_pos c7, if_neg c12]
          have e0 : s_X7_readLink_Z Z L tx re = upd (upd (upd Z 2 (nI L)) 3 (nI (1 + 1))) 6 0 := by rw [s_X7_readLink_Z]; (try rw [hF2]); rw [if_neg c3, if_pos c4, if_pos c7, if_neg c12]
          have e1 : s_X7_readLink_rp L tx rp re = upd F2 0 ((tx 1) - 48) := by rw [s_X7_readLink_rp]; (try rw [hF2]); rw [if_neg c3, if_pos c4, if_pos c7, if_neg c12]
          have e2 : s_X7_readLink_re L tx re = re := by rw [s_X7_readLink_re]; (try rw [hF2]); rw [if_neg c3, if_pos c4, if_pos c7, if_neg c12]
          exact k_iret kx hK hP128 hD129 hS127 (u := (upd (upd (upd Z 2 (nI L)) 3 (nI (1 + 1))) 6 0, upd F2 0 ((tx 1) - 48), re)) rfl ⟨er.symm, e0.symm, e1.symm, e2.symm⟩ dX7_readLink_79
      · skip
        refine k_calli (kRunV (As := [.int 1, .int 9]) (rest := []) kx (c_X7_figure_no_19 l G (upd (upd (upd (upd Z 2 (nI L)) 3 0) 6 0) 3 1) L 1 sd h0 q1 q2 q3 q4 q5 q6 q7 q8 q9 q10 q11 tx hL (by omega) c7) q_756 q_753 q_36 q_755 q_14 nX7_figure ⟨Nat.le_of_ble_eq_true rfl, Nat.le_of_ble_eq_true rfl⟩ hK hP11 hD12 (kCtx_places _ _ [0, 1] rfl rfl) 0 7 rfl rfl rfl rfl hl13.1 (Nat.le_of_ble_eq_true rfl) dX7_readLink_65 ⟨Nat.zero_le _, Nat.zero_le _⟩) hP11 hD12 hS10 hA (kCtx_places _ _ [0, 1] rfl rfl) (fun _ => rfl) (fun r67 _ H131 locs131 hw hP131 hD131 hS131 => ?_)
        have hr67 : (-9) = r67 := (show r67 = (-9) from hw).symm
        subst hr67
        have hP132 : va_P G.1 vwCl ([(h0, .inr (7, cM (upd (upd (upd (upd Z 2 (nI L)) 3 0) 6 0) 3 1) q1 q2 q3 q4 q5 q6 q7 q8 q9 q10 q11 sd)), (q1, .inl (G.2.1, 70, .inl tx)), (q2, .inl (G.2.1, 55, .inl F2)), (q3, .inl (G.2.1, 70, .inl re))]) H131 := hP131
        have hD133 : va_D A ([(h0, .inr (7, cM (upd (upd (upd (upd Z 2 (nI L)) 3 0) 6 0) 3 1) q1 q2 q3 q4 q5 q6 q7 q8 q9 q10 q11 sd)), (q1, .inl (G.2.1, 70, .inl tx)), (q2, .inl (G.2.1, 55, .inl F2)), (q3, .inl (G.2.1, 70, .inl re))]) := hD131
        refine lv_istore_n (lv' := [(2, .int (-9)), (1, .int 0), (0, .ref h0)]) hx hb dX7_readLink_68 rfl hl13 (by decide) rfl (fun ls134 hl134 => ?_)
        refine lv_iload_n hx hb dX7_readLink_69 rfl (lv_at hl134 0 rfl) ?_
        refine lv_bipush (v := (-9)) hx hb dX7_readLink_70 (by decide) ?_
        refine lv_icmp_ne (x := (-9)) (y := (-9)) (tgt := 80) hx hb dX7_readLink_72 (by decide) (fun (c68 : ¬ ((-9) = (-9))) => absurd (by decide) c68) (fun (c68 : (-9) = (-9)) => ?_)
        refine lv_aload_n hx hb dX7_readLink_75 rfl (lv_at hl134 2 rfl) ?_
        refine va_get (ci := 7) (v := .int 1) (C := RX7) (T := TX7) (N := 22) hx hb ht inX7 hown hK.1 hP132 0 rfl rfl 3 (by decide) (ht _ q_669) (fun _ h9 => h9) rfl dX7_readLink_76 ?_
        have er : r_X7_readLink L tx re = 1 := by rw [r_X7_readLink]; (try rw [hF2]); rw [if_neg c3, if_pos c4, if_neg c7]
        have e0 : s_X7_readLink_Z Z L tx re = upd (upd (upd (upd Z 2 (nI L)) 3 0) 6 0) 3 1 := by rw [s_X7_readLink_Z]; (try rw [hF2]); rw [if_neg c3, if_pos c4, if_neg c7]
        have e1 : s_X7_readLink_rp L tx rp re = F2 := by rw [s_X7_readLink_rp]; (try rw [hF2]); rw [if_neg c3, if_pos c4, if_neg c7]
        have e2 : s_X7_readLink_re L tx re = re := by rw [s_X7_readLink_re]; (try rw [hF2]); rw [if_neg c3, if_pos c4, if_neg c7]
        exact k_iret kx hK hP132 hD133 hS131 (u := (upd (upd (upd (upd Z 2 (nI L)) 3 0) 6 0) 3 1, F2, re)) rfl ⟨er.symm, e0.symm, e1.symm, e2.symm⟩ dX7_readLink_79
    · skip
      refine lv_iconst (v := 0) hx hb dX7_readLink_35 (by decide) ?_
      have er : r_X7_readLink L tx re = 0 := by rw [r_X7_readLink]; (try rw [hF2]); rw [if_neg c3, if_neg c4]
      have e0 : s_X7_readLink_Z Z L tx re = upd (upd (upd Z 2 (nI L)) 3 0) 6 0 := by rw [s_X7_readLink_Z]; (try rw [hF2]); rw [if_neg c3, if_neg c4]
      have e1 : s_X7_readLink_rp L tx rp re = F2 := by rw [s_X7_readLink_rp]; (try rw [hF2]); rw [if_neg c3, if_neg c4]
      have e2 : s_X7_readLink_re L tx re = re := by rw [s_X7_readLink_re]; (try rw [hF2]); rw [if_neg c3, if_neg c4]
      exact k_iret kx hK hP8 hD9 hS7 (u := (upd (upd (upd Z 2 (nI L)) 3 0) 6 0, F2, re)) rfl ⟨er.symm, e0.symm, e1.symm, e2.symm⟩ dX7_readLink_36

set_option maxHeartbeats 4000000 in
set_option maxRecDepth 100000 in
theorem c_X7_fault (l : Launch) (G : kG) (Z : Nat → Int32) (L : Nat) (sd : Int64) (h0 : Nat) (q1 : Nat) (q2 : Nat) (q3 : Nat) (q4 : Nat) (q5 : Nat) (q6 : Nat) (q7 : Nat) (q8 : Nat) (q9 : Nat) (q10 : Nat) (q11 : Nat) (tx : Nat → Int32) (rp : Nat → Int32) (re : Nat → Int32) (hL : L ≤ 70) : cG l G yX7_fault cX7_fault 1 (some .int) 4 [.ref h0] ([(h0, .inr (7, cM (upd Z 2 (nI L)) q1 q2 q3 q4 q5 q6 q7 q8 q9 q10 q11 sd)), (q1, .inl (G.2.1, 70, .inl tx)), (q2, .inl (G.2.1, 55, .inl rp)), (q3, .inl (G.2.1, 70, .inl re))]) (qI G (fun (r : Int32) (_ : Unit) => r = r_X7_readLink L tx re) (fun _ => [(h0, .inr (7, cM (s_X7_readLink_Z (upd (upd Z 2 (nI L)) 0 0) L tx re) q1 q2 q3 q4 q5 q6 q7 q8 q9 q10 q11 sd)), (q1, .inl (G.2.1, 70, .inl tx)), (q2, .inl (G.2.1, 55, .inl (s_X7_readLink_rp L tx rp re))), (q3, .inl (G.2.1, 70, .inl (s_X7_readLink_re L tx re)))])) := by
  refine kintro (by decide) (Nat.le_of_ble_eq_true rfl) ?_
  intro p e s m args below meth c A ls kx hK hP hD hS hA hl
  have kx : kX p s m args meth c cX7_fault 1 (some .int) RX7 := kx
  have hx := kx.1
  have hb := kx.2.1
  have hown := kx.2.2.2.2.1
  have ht := kx.2.2.2.2.2.2
  have hl : lv_has ls 1 [(0, .ref h0)] := hl
  refine lv_aload_n hx hb dX7_fault_0 rfl (lv_at hl 0 rfl) ?_
  refine lv_iconst (v := 0) hx hb dX7_fault_1 (by decide) ?_
  refine va_put (ci := 7) (v := .int 0) (ty := .int) (C := RX7) (T := TX7) (N := 22) hx hb ht inX7 tyX7 tyX7_ok nmX7 hown hK.1 hP hD hS 0 rfl rfl 0 (by decide) (ht _ q_666) (fun _ h9 => h9) rfl (by decide +kernel) rfl rfl (Nat.le_of_ble_eq_true rfl) dX7_fault_2 (fun H1 locs1 hP1 hD1 hS1 => ?_)
  have hP2 : va_P G.1 vwCl ([(h0, .inr (7, cM (upd (upd Z 2 (nI L)) 0 0) q1 q2 q3 q4 q5 q6 q7 q8 q9 q10 q11 sd)), (q1, .inl (G.2.1, 70, .inl tx)), (q2, .inl (G.2.1, 55, .inl rp)), (q3, .inl (G.2.1, 70, .inl re))]) H1 := hP1
  have hD3 : va_D A ([(h0, .inr (7, cM (upd (upd Z 2 (nI L)) 0 0) q1 q2 q3 q4 q5 q6 q7 q8 q9 q10 q11 sd)), (q1, .inl (G.2.1, 70, .inl tx)), (q2, .inl (G.2.1, 55, .inl rp)), (q3, .inl (G.2.1, 70, .inl re))]) := hD1
  refine lv_aload_n hx hb dX7_fault_5 rfl (lv_at hl 0 rfl) ?_
  refine k_calli (kRunV (As := []) (rest := []) kx (c_X7_readLink l G (upd (upd Z 2 (nI L)) 0 0) L sd h0 q1 q2 q3 q4 q5 q6 q7 q8 q9 q10 q11 tx rp re hL) q_752 q_749 q_36 q_751 q_13 nX7_readLink ⟨Nat.le_of_ble_eq_true rfl, Nat.le_of_ble_eq_true rfl⟩ hK hP2 hD3 (kCtx_all _) 0 7 rfl rfl rfl rfl hl.1 (Nat.le_of_ble_eq_true rfl) dX7_fault_6 ⟨Nat.zero_le _, Nat.zero_le _⟩) hP2 hD3 hS1 hA (kCtx_all _) (fun _ => rfl) (fun r1 u H4 locs4 hw hP4 hD4 hS4 => ?_)
  obtain ⟨F2, F3, F4⟩ := u
  obtain ⟨hr1, hF2, hF3, hF4⟩ := hw
  have hr1 : r_X7_readLink L tx re = r1 := (show r1 = r_X7_readLink L tx re from hr1).symm
  have hF2 : s_X7_readLink_Z (upd (upd Z 2 (nI L)) 0 0) L tx re = F2 := (show F2 = s_X7_readLink_Z (upd (upd Z 2 (nI L)) 0 0) L tx re from hF2).symm
  have hF3 : s_X7_readLink_rp L tx rp re = F3 := (show F3 = s_X7_readLink_rp L tx rp re from hF3).symm
  have hF4 : s_X7_readLink_re L tx re = F4 := (show F4 = s_X7_readLink_re L tx re from hF4).symm
  have hP5 : va_P G.1 vwCl ([(h0, .inr (7, cM F2 q1 q2 q3 q4 q5 q6 q7 q8 q9 q10 q11 sd)), (q1, .inl (G.2.1, 70, .inl tx)), (q2, .inl (G.2.1, 55, .inl F3)), (q3, .inl (G.2.1, 70, .inl F4))]) H4 := hP4
  have hD6 : va_D A ([(h0, .inr (7, cM F2 q1 q2 q3 q4 q5 q6 q7 q8 q9 q10 q11 sd)), (q1, .inl (G.2.1, 70, .inl tx)), (q2, .inl (G.2.1, 55, .inl F3)), (q3, .inl (G.2.1, 70, .inl F4))]) := hD4
  have er : r_X7_readLink L tx re = r1 := by (try rw [hF2]); (try rw [hF3]); (try rw [hF4]); (try rw [hr1]); first | done | rfl
  subst hF2
  subst hF3
  subst hF4
  subst hr1
  exact k_iret kx hK hP5 hD6 hS4 (u := ()) rfl (by first | rfl | exact er.symm) dX7_fault_9
