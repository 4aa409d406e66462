def l_X7_note_f_2_bk (pg : Nat → Int32) : Nat → Nat → (Nat → Int32) → Nat → Int32
  | 0, j2, bk_2 => bk_2
  | n2 + 1, j2, bk_2 => l_X7_note_f_2_bk pg n2 (j2 + 1) (upd bk_2 (715 + j2) (pg j2))
def l_X7_note_f_1_bk (pg : Nat → Int32) : Nat → Nat → (Nat → Int32) → Nat → Int32
  | 0, j1, bk_1 => l_X7_note_f_2_bk pg 55 0 bk_1
  | n1 + 1, j1, bk_1 => l_X7_note_f_1_bk pg n1 (j1 + 1) (upd bk_1 j1 (bk_1 (j1 + 55)))
def s_X7_note_f_bk (pg : Nat → Int32) (bk : Nat → Int32) : Nat → Int32 := l_X7_note_f_1_bk pg 715 0 bk
set_option maxHeartbeats 4000000 in
set_option maxRecDepth 100000 in
theorem c_X7_note_f (l : Launch) (G : kG) (Z : Nat → Int32) (sd : Int64) (h0 : Nat) (q1 : Nat) (q2 : Nat) (q3 : Nat) (q4 : Nat) (q5 : Nat) (q6 : Nat) (q7 : Nat) (q8 : Nat) (q9 : Nat) (q10 : Nat) (q11 : Nat) (pg : Nat → Int32) (bk : Nat → Int32) : cG l G yX7_note cX7_note 2 none 0 [.ref h0] ([(h0, .inr (7, cM (upd Z 10 14) q1 q2 q3 q4 q5 q6 q7 q8 q9 q10 q11 sd)), (q4, .inl (G.2.1, 55, .inl pg)), (q6, .inl (G.2.1, 770, .inl bk))]) (qV G (fun u : (Nat → Int32) => u = s_X7_note_f_bk pg bk) (fun u => [(h0, .inr (7, cM (upd Z 10 14) q1 q2 q3 q4 q5 q6 q7 q8 q9 q10 q11 sd)), (q4, .inl (G.2.1, 55, .inl pg)), (q6, .inl (G.2.1, 770, .inl u))])) := by
  refine kintro (by decide) (Nat.le_of_ble_eq_true rfl) ?_
  intro p e s m args below meth c A ls kx hK hP hD hS hA hl
  have kx : kX p s m args meth c cX7_note 2 none RX7 := kx
  have hx := kx.1
  have hb := kx.2.1
  have hown := kx.2.2.2.2.1
  have ht := kx.2.2.2.2.2.2
  have hl : lv_has ls 2 [(0, .ref h0)] := hl
  refine lv_aload_n hx hb dX7_note_0 rfl (lv_at hl 0 rfl) ?_
  refine va_get (ci := 7) (v := .int 14) (C := RX7) (T := TX7) (N := 22) hx hb ht inX7 hown hK.1 hP 0 rfl rfl 10 (by decide) (ht _ q_676) (fun _ h9 => h9) rfl dX7_note_1 ?_
  refine lv_bipush (v := 14) hx hb dX7_note_4 (by decide) ?_
  refine lv_icmp_ne (x := 14) (y := 14) (tgt := 49) hx hb dX7_note_6 (by decide) (fun (c1 : ¬ (14 = 14)) => absurd (by decide) c1) (fun (c1 : 14 = 14) => ?_)
  refine lv_iconst (v := 0) hx hb dX7_note_9 (by decide) ?_
  refine lv_istore_n (lv' := [(1, .int 0), (0, .ref h0)]) hx hb dX7_note_10 rfl hl (by decide) rfl (fun ls1 hl1 => ?_)
  have lp1 : ∀ (n1 j1 : Nat) (bk_1 : Nat → Int32), j1 + n1 = 715 → (hbk_1 : s_X7_note_f_bk pg bk = l_X7_note_f_1_bk pg n1 j1 bk_1) → ∀ (H : Heap) (locs : List Loc) (ls : Array Slot), va_P G.1 vwCl ([(h0, .inr (7, cM (upd Z 10 14) q1 q2 q3 q4 q5 q6 q7 q8 q9 q10 q11 sd)), (q4, .inl (G.2.1, 55, .inl pg)), (q6, .inl (G.2.1, 770, .inl bk_1))]) H → va_D A ([(h0, .inr (7, cM (upd Z 10 14) q1 q2 q3 q4 q5 q6 q7 q8 q9 q10 q11 sd)), (q4, .inl (G.2.1, 55, .inl pg)), (q6, .inl (G.2.1, 770, .inl bk_1))]) → va_S A s.heap H locs → lv_has ls 2 [(0, .ref h0), (1, .int (nI j1))] → W p l e (kr 0) s m args below meth c H locs 0 0 (MQ below (qV G (fun u : (Nat → Int32) => u = s_X7_note_f_bk pg bk) (fun u => [(h0, .inr (7, cM (upd Z 10 14) q1 q2 q3 q4 q5 q6 q7 q8 q9 q10 q11 sd)), (q4, .inl (G.2.1, 55, .inl pg)), (q6, .inl (G.2.1, 770, .inl u))]) A) args s 0 0 A) (F0 m 11 ls []) := by
    intro n1
    induction n1 with
    | zero =>
      intro j1 bk_1 hj1 hbk_1 H2 locs2 ls2 hP2 hD2 hS2 hl2
      refine lv_iload_n hx hb dX7_note_11 rfl (lv_at hl2 1 rfl) ?_
      refine lv_sipush (v := 715) hx hb dX7_note_12 (by decide) ?_
      refine lv_icmp_ge (x := nI j1) (y := 715) (tgt := 39) hx hb dX7_note_15 (by decide) (fun (c2 : 715 ≤ nI j1) => ?_) (fun (c2 : ¬ (715 ≤ nI j1)) => absurd (kle_z rfl hj1) c2)
      refine lv_aload_n hx hb dX7_note_39 rfl (lv_at hl2 0 rfl) ?_
      refine lv_dup hx hb dX7_note_40 rfl ?_
      refine va_get (ci := 7) (v := .int 14) (C := RX7) (T := TX7) (N := 22) hx hb ht inX7 hown hK.1 hP2 0 rfl rfl 10 (by decide) (ht _ q_676) (fun _ h9 => h9) rfl dX7_note_41 ?_
      refine lv_iconst (v := 1) hx hb dX7_note_44 (by decide) ?_
      refine lv_isub hx hb dX7_note_45 ?_
      refine k_top (y := 13) (by decide +kernel) ?_
      refine va_put (ci := 7) (v := .int 13) (ty := .int) (C := RX7) (T := TX7) (N := 22) hx hb ht inX7 tyX7 tyX7_ok nmX7 hown hK.1 hP2 hD2 hS2 0 rfl rfl 10 (by decide) (ht _ q_676) (fun _ h9 => h9) rfl (by decide +kernel) rfl rfl (Nat.le_of_ble_eq_true rfl) dX7_note_46 (fun H3 locs3 hP3 hD3 hS3 => ?_)
      have hP4 : va_P G.1 vwCl ([(h0, .inr (7, cM (upd (upd Z 10 14) 10 13) q1 q2 q3 q4 q5 q6 q7 q8 q9 q10 q11 sd)), (q4, .inl (G.2.1, 55, .inl pg)), (q6, .inl (G.2.1, 770, .inl bk_1))]) H3 := hP3
      have hD5 : va_D A ([(h0, .inr (7, cM (upd (upd Z 10 14) 10 13) q1 q2 q3 q4 q5 q6 q7 q8 q9 q10 q11 sd)), (q4, .inl (G.2.1, 55, .inl pg)), (q6, .inl (G.2.1, 770, .inl bk_1))]) := hD3
      refine lv_iconst (v := 0) hx hb dX7_note_49 (by decide) ?_
      refine lv_istore_n (lv' := [(1, .int 0), (0, .ref h0)]) hx hb dX7_note_50 rfl hl2 (by decide) rfl (fun ls6 hl6 => ?_)
      have lp2 : ∀ (n2 j2 : Nat) (bk_2 : Nat → Int32), j2 + n2 = 55 → (hbk_2 : s_X7_note_f_bk pg bk = l_X7_note_f_2_bk pg n2 j2 bk_2) → ∀ (H : Heap) (locs : List Loc) (ls : Array Slot), va_P G.1 vwCl ([(h0, .inr (7, cM (upd (upd Z 10 14) 10 13) q1 q2 q3 q4 q5 q6 q7 q8 q9 q10 q11 sd)), (q4, .inl (G.2.1, 55, .inl pg)), (q6, .inl (G.2.1, 770, .inl bk_2))]) H → va_D A ([(h0, .inr (7, cM (upd (upd Z 10 14) 10 13) q1 q2 q3 q4 q5 q6 q7 q8 q9 q10 q11 sd)), (q4, .inl (G.2.1, 55, .inl pg)), (q6, .inl (G.2.1, 770, .inl bk_2))]) → va_S A s.heap H locs → lv_has ls 2 [(0, .ref h0), (1, .int (nI j2))] → W p l e (kr 0) s m args below meth c H locs 0 0 (MQ below (qV G (fun u : (Nat → Int32) => u = s_X7_note_f_bk pg bk) (fun u => [(h0, .inr (7, cM (upd Z 10 14) q1 q2 q3 q4 q5 q6 q7 q8 q9 q10 q11 sd)), (q4, .inl (G.2.1, 55, .inl pg)), (q6, .inl (G.2.1, 770, .inl u))]) A) args s 0 0 A) (F0 m 51 ls []) := by
        intro n2
        induction n2 with
        | zero =>
          intro j2 bk_2 hj2 hbk_2 H7 locs7 ls7 hP7 hD7 hS7 hl7
          refine lv_iload_n hx hb dX7_note_51 rfl (lv_at hl7 1 rfl) ?_
          refine lv_bipush (v := 55) hx hb dX7_note_52 (by decide) ?_
          refine lv_icmp_ge (x := nI j2) (y := 55) (tgt := 83) hx hb dX7_note_54 (by decide) (fun (c3 : 55 ≤ nI j2) => ?_) (fun (c3 : ¬ (55 ≤ nI j2)) => absurd (kle_z rfl hj2) c3)
          refine lv_aload_n hx hb dX7_note_83 rfl (lv_at hl7 0 rfl) ?_
          refine lv_dup hx hb dX7_note_84 rfl ?_
          refine va_get (ci := 7) (v := .int 13) (C := RX7) (T := TX7) (N := 22) hx hb ht inX7 hown hK.1 hP7 0 rfl rfl 10 (by decide) (ht _ q_676) (fun _ h9 => h9) rfl dX7_note_85 ?_
          refine lv_iconst (v := 1) hx hb dX7_note_88 (by decide) ?_
          refine lv_iadd hx hb dX7_note_89 ?_
          refine k_top (y := 14) (by decide +kernel) ?_
          refine va_put (ci := 7) (v := .int 14) (ty := .int) (C := RX7) (T := TX7) (N := 22) hx hb ht inX7 tyX7 tyX7_ok nmX7 hown hK.1 hP7 hD7 hS7 0 rfl rfl 10 (by decide) (ht _ q_676) (fun _ h9 => h9) rfl (by decide +kernel) rfl rfl (Nat.le_of_ble_eq_true rfl) dX7_note_90 (fun H8 locs8 hP8 hD8 hS8 => ?_)
          have hP9 : va_P G.1 vwCl ([(h0, .inr (7, cM (upd (upd (upd Z 10 14) 10 13) 10 14) q1 q2 q3 q4 q5 q6 q7 q8 q9 q10 q11 sd)), (q4, .inl (G.2.1, 55, .inl pg)), (q6, .inl (G.2.1, 770, .inl bk_2))]) H8 := hP8
          have hD10 : va_D A ([(h0, .inr (7, cM (upd (upd (upd Z 10 14) 10 13) 10 14) q1 q2 q3 q4 q5 q6 q7 q8 q9 q10 q11 sd)), (q4, .inl (G.2.1, 55, .inl pg)), (q6, .inl (G.2.1, 770, .inl bk_2))]) := hD8
          have e0 : s_X7_note_f_bk pg bk = bk_2 := by rw [hbk_2, l_X7_note_f_2_bk]
          exact k_vret kx hK hP9 hD10 hS8 (u := bk_2) rfl e0.symm dX7_note_93
        | succ n2 ih2 =>
          intro j2 bk_2 hj2 hbk_2 H7 locs7 ls7 hP7 hD7 hS7 hl7
          refine lv_iload_n hx hb dX7_note_51 rfl (lv_at hl7 1 rfl) ?_
          refine lv_bipush (v := 55) hx hb dX7_note_52 (by decide) ?_
          refine lv_icmp_ge (x := nI j2) (y := 55) (tgt := 83) hx hb dX7_note_54 (by decide) (fun (c4 : 55 ≤ nI j2) => absurd c4 (kle_s rfl hj2 (by decide))) (fun (c4 : ¬ (55 ≤ nI j2)) => ?_)
          refine lv_aload_n hx hb dX7_note_57 rfl (lv_at hl7 0 rfl) ?_
          refine va_get (ci := 7) (v := .ref q6) (C := RX7) (T := TX7) (N := 22) hx hb ht inX7 hown hK.1 hP7 0 rfl rfl 9 (by decide) (ht _ q_675) (fun _ h9 => h9) rfl dX7_note_58 ?_
          refine lv_bipush (v := 55) hx hb dX7_note_61 (by decide) ?_
          refine lv_aload_n hx hb dX7_note_63 rfl (lv_at hl7 0 rfl) ?_
          refine va_get (ci := 7) (v := .int 13) (C := RX7) (T := TX7) (N := 22) hx hb ht inX7 hown hK.1 hP7 0 rfl rfl 10 (by decide) (ht _ q_676) (fun _ h9 => h9) rfl dX7_note_64 ?_
          refine lv_imul hx hb dX7_note_67 ?_
          refine k_top (y := 715) (by decide +kernel) ?_
          refine lv_iload_n hx hb dX7_note_68 rfl (lv_at hl7 1 rfl) ?_
          refine lv_iadd hx hb dX7_note_69 ?_
          refine lv_aload_n hx hb dX7_note_70 rfl (lv_at hl7 0 rfl) ?_
          refine va_get (ci := 7) (v := .ref q4) (C := RX7) (T := TX7) (N := 22) hx hb ht inX7 hown hK.1 hP7 0 rfl rfl 7 (by decide) (ht _ q_673) (fun _ h9 => h9) rfl dX7_note_71 ?_
          refine lv_iload_n hx hb dX7_note_74 rfl (lv_at hl7 1 rfl) ?_
          refine k_iald (v := (pg j2)) kx hK hP7 1 rfl j2 rfl (by omega) (by decide) rfl dX7_note_75 ?_
          refine k_iast kx hK hP7 hD7 hS7 2 rfl (715 + j2) (kadd rfl rfl) (by omega) (by decide) dX7_note_76 (fun H11 locs11 hP11 hD11 hS11 => ?_)
          have hP12 : va_P G.1 vwCl ([(h0, .inr (7, cM (upd (upd Z 10 14) 10 13) q1 q2 q3 q4 q5 q6 q7 q8 q9 q10 q11 sd)), (q4, .inl (G.2.1, 55, .inl pg)), (q6, .inl (G.2.1, 770, .inl (upd bk_2 (715 + j2) (pg j2))))]) H11 := hP11
          have hD13 : va_D A ([(h0, .inr (7, cM (upd (upd Z 10 14) 10 13) q1 q2 q3 q4 q5 q6 q7 q8 q9 q10 q11 sd)), (q4, .inl (G.2.1, 55, .inl pg)), (q6, .inl (G.2.1, 770, .inl (upd bk_2 (715 + j2) (pg j2))))]) := hD11
          refine lv_iinc (v := nI (j2 + 1)) (lv' := [(1, .int (nI (j2 + 1))), (0, .ref h0)]) hx hb dX7_note_77 hl7 (k := 1) rfl (nI_1 j2) (by decide) rfl (fun ls14 hl14 => ?_)
          refine lv_goto (tgt := 51) hx hb dX7_note_80 (by decide) ?_
          have gbk : s_X7_note_f_bk pg bk = l_X7_note_f_2_bk pg n2 (j2 + 1) (upd bk_2 (715 + j2) (pg j2)) := by rw [hbk_2, l_X7_note_f_2_bk]
          exact ih2 (j2 + 1) (upd bk_2 (715 + j2) (pg j2)) (by omega) gbk _ _ _ hP12 hD13 hS11 (lv_sub hl14 [1, 0] rfl)
      have gbk : s_X7_note_f_bk pg bk = l_X7_note_f_2_bk pg 55 0 bk_1 := by rw [hbk_1, l_X7_note_f_1_bk]
      exact lp2 55 0 bk_1 (by omega) gbk _ _ _ hP4 hD5 hS3 (lv_sub hl6 [1, 0] rfl)
    | succ n1 ih1 =>
      intro j1 bk_1 hj1 hbk_1 H2 locs2 ls2 hP2 hD2 hS2 hl2
      refine lv_iload_n hx hb dX7_note_11 rfl (lv_at hl2 1 rfl) ?_
      refine lv_sipush (v := 715) hx hb dX7_note_12 (by decide) ?_
      refine lv_icmp_ge (x := nI j1) (y := 715) (tgt := 39) hx hb dX7_note_15 (by decide) (fun (c5 : 715 ≤ nI j1) => absurd c5 (kle_s rfl hj1 (by decide))) (fun (c5 : ¬ (715 ≤ nI j1)) => ?_)
      refine lv_aload_n hx hb dX7_note_18 rfl (lv_at hl2 0 rfl) ?_
      refine va_get (ci := 7) (v := .ref q6) (C := RX7) (T := TX7) (N := 22) hx hb ht inX7 hown hK.1 hP2 0 rfl rfl 9 (by decide) (ht _ q_675) (fun _ h9 => h9) rfl dX7_note_19 ?_
      refine lv_iload_n hx hb dX7_note_22 rfl (lv_at hl2 1 rfl) ?_
      refine lv_aload_n hx hb dX7_note_23 rfl (lv_at hl2 0 rfl) ?_
      refine va_get (ci := 7) (v := .ref q6) (C := RX7) (T := TX7) (N := 22) hx hb ht inX7 hown hK.1 hP2 0 rfl rfl 9 (by decide) (ht _ q_675) (fun _ h9 => h9) rfl dX7_note_24 ?_
      refine lv_iload_n hx hb dX7_note_27 rfl (lv_at hl2 1 rfl) ?_
      refine lv_bipush (v := 55) hx hb dX7_note_28 (by decide) ?_
      refine lv_iadd hx hb dX7_note_30 ?_
      refine k_iald (v := (bk_1 (j1 + 55))) kx hK hP2 2 rfl (j1 + 55) (kadd rfl rfl) (by omega) (by decide) rfl dX7_note_31 ?_
      refine k_iast kx hK hP2 hD2 hS2 2 rfl j1 rfl (by omega) (by decide) dX7_note_32 (fun H15 locs15 hP15 hD15 hS15 => ?_)
      have hP16 : va_P G.1 vwCl ([(h0, .inr (7, cM (upd Z 10 14) q1 q2 q3 q4 q5 q6 q7 q8 q9 q10 q11 sd)), (q4, .inl (G.2.1, 55, .inl pg)), (q6, .inl (G.2.1, 770, .inl (upd bk_1 j1 (bk_1 (j1 + 55)))))]) H15 := hP15
      have hD17 : va_D A ([(h0, .inr (7, cM (upd Z 10 14) q1 q2 q3 q4 q5 q6 q7 q8 q9 q10 q11 sd)), (q4, .inl (G.2.1, 55, .inl pg)), (q6, .inl (G.2.1, 770, .inl (upd bk_1 j1 (bk_1 (j1 + 55)))))]) := hD15
      refine lv_iinc (v := nI (j1 + 1)) (lv' := [(1, .int (nI (j1 + 1))), (0, .ref h0)]) hx hb dX7_note_33 hl2 (k := 1) rfl (nI_1 j1) (by decide) rfl (fun ls18 hl18 => ?_)
      refine lv_goto (tgt := 11) hx hb dX7_note_36 (by decide) ?_
      have gbk : s_X7_note_f_bk pg bk = l_X7_note_f_1_bk pg n1 (j1 + 1) (upd bk_1 j1 (bk_1 (j1 + 55))) := by rw [hbk_1, l_X7_note_f_1_bk]
      exact ih1 (j1 + 1) (upd bk_1 j1 (bk_1 (j1 + 55))) (by omega) gbk _ _ _ hP16 hD17 hS15 (lv_sub hl18 [1, 0] rfl)
  have gbk : s_X7_note_f_bk pg bk = l_X7_note_f_1_bk pg 715 0 bk := by rw [s_X7_note_f_bk]
  exact lp1 715 0 bk (by omega) gbk _ _ _ hP hD hS (lv_sub hl1 [1, 0] rfl)

def l_X7_note_d_1_bk (d : Nat) (pg : Nat → Int32) : Nat → Nat → (Nat → Int32) → Nat → Int32
  | 0, j1, bk_1 => bk_1
  | n1 + 1, j1, bk_1 => l_X7_note_d_1_bk d pg n1 (j1 + 1) (upd bk_1 ((55 * d) + j1) (pg j1))
def s_X7_note_d_bk (d : Nat) (pg : Nat → Int32) (bk : Nat → Int32) : Nat → Int32 := l_X7_note_d_1_bk d pg 55 0 bk
set_option maxHeartbeats 4000000 in
set_option maxRecDepth 100000 in
theorem c_X7_note_d (l : Launch) (G : kG) (Z : Nat → Int32) (d : Nat) (sd : Int64) (h0 : Nat) (q1 : Nat) (q2 : Nat) (q3 : Nat) (q4 : Nat) (q5 : Nat) (q6 : Nat) (q7 : Nat) (q8 : Nat) (q9 : Nat) (q10 : Nat) (q11 : Nat) (pg : Nat → Int32) (bk : Nat → Int32) (hd : d < 14) : cG l G yX7_note cX7_note 2 none 0 [.ref h0] ([(h0, .inr (7, cM (upd Z 10 (nI d)) q1 q2 q3 q4 q5 q6 q7 q8 q9 q10 q11 sd)), (q4, .inl (G.2.1, 55, .inl pg)), (q6, .inl (G.2.1, 770, .inl bk))]) (qV G (fun u : (Nat → Int32) => u = s_X7_note_d_bk d pg bk) (fun u => [(h0, .inr (7, cM (upd Z 10 ((nI d) + 1)) q1 q2 q3 q4 q5 q6 q7 q8 q9 q10 q11 sd)), (q4, .inl (G.2.1, 55, .inl pg)), (q6, .inl (G.2.1, 770, .inl u))])) := by
  refine kintro (by decide) (Nat.le_of_ble_eq_true rfl) ?_
  intro p e s m args below meth c A ls kx hK hP hD hS hA hl
  have kx : kX p s m args meth c cX7_note 2 none RX7 := kx
  have hx := kx.1
  have hb := kx.2.1
  have hown := kx.2.2.2.2.1
  have ht := kx.2.2.2.2.2.2
  have hl : lv_has ls 2 [(0, .ref h0)] := hl
  refine lv_aload_n hx hb dX7_note_0 rfl (lv_at hl 0 rfl) ?_
  refine va_get (ci := 7) (v := .int (nI d)) (C := RX7) (T := TX7) (N := 22) hx hb ht inX7 hown hK.1 hP 0 rfl rfl 10 (by decide) (ht _ q_676) (fun _ h9 => h9) rfl dX7_note_1 ?_
  refine lv_bipush (v := 14) hx hb dX7_note_4 (by decide) ?_
  refine lv_icmp_ne (x := nI d) (y := 14) (tgt := 49) hx hb dX7_note_6 (by decide) (fun (c1 : ¬ (nI d = 14)) => ?_) (fun (c1 : nI d = 14) => absurd c1 (fun q => absurd ((nI_eq (by omega) (by omega)).mp (show nI d = nI 14 from q)) (by omega)))
  refine lv_iconst (v := 0) hx hb dX7_note_49 (by decide) ?_
  refine lv_istore_n (lv' := [(1, .int 0), (0, .ref h0)]) hx hb dX7_note_50 rfl hl (by decide) rfl (fun ls1 hl1 => ?_)
  have lp1 : ∀ (n1 j1 : Nat) (bk_1 : Nat → Int32), j1 + n1 = 55 → (hbk_1 : s_X7_note_d_bk d pg bk = l_X7_note_d_1_bk d pg n1 j1 bk_1) → ∀ (H : Heap) (locs : List Loc) (ls : Array Slot), va_P G.1 vwCl ([(h0, .inr (7, cM (upd Z 10 (nI d)) q1 q2 q3 q4 q5 q6 q7 q8 q9 q10 q11 sd)), (q4, .inl (G.2.1, 55, .inl pg)), (q6, .inl (G.2.1, 770, .inl bk_1))]) H → va_D A ([(h0, .inr (7, cM (upd Z 10 (nI d)) q1 q2 q3 q4 q5 q6 q7 q8 q9 q10 q11 sd)), (q4, .inl (G.2.1, 55, .inl pg)), (q6, .inl (G.2.1, 770, .inl bk_1))]) → va_S A s.heap H locs → lv_has ls 2 [(0, .ref h0), (1, .int (nI j1))] → W p l e (kr 0) s m args below meth c H locs 0 0 (MQ below (qV G (fun u : (Nat → Int32) => u = s_X7_note_d_bk d pg bk) (fun u => [(h0, .inr (7, cM (upd Z 10 ((nI d) + 1)) q1 q2 q3 q4 q5 q6 q7 q8 q9 q10 q11 sd)), (q4, .inl (G.2.1, 55, .inl pg)), (q6, .inl (G.2.1, 770, .inl u))]) A) args s 0 0 A) (F0 m 51 ls []) := by
    intro n1
    induction n1 with
    | zero =>
      intro j1 bk_1 hj1 hbk_1 H2 locs2 ls2 hP2 hD2 hS2 hl2
      refine lv_iload_n hx hb dX7_note_51 rfl (lv_at hl2 1 rfl) ?_
      refine lv_bipush (v := 55) hx hb dX7_note_52 (by decide) ?_
      refine lv_icmp_ge (x := nI j1) (y := 55) (tgt := 83) hx hb dX7_note_54 (by decide) (fun (c2 : 55 ≤ nI j1) => ?_) (fun (c2 : ¬ (55 ≤ nI j1)) => absurd (kle_z rfl hj1) c2)
      refine lv_aload_n hx hb dX7_note_83 rfl (lv_at hl2 0 rfl) ?_
      refine lv_dup hx hb dX7_note_84 rfl ?_
      refine va_get (ci := 7) (v := .int (nI d)) (C := RX7) (T := TX7) (N := 22) hx hb ht inX7 hown hK.1 hP2 0 rfl rfl 10 (by decide) (ht _ q_676) (fun _ h9 => h9) rfl dX7_note_85 ?_
      refine lv_iconst (v := 1) hx hb dX7_note_88 (by decide) ?_
      refine lv_iadd hx hb dX7_note_89 ?_
      refine va_put (ci := 7) (v := .int ((nI d) + 1)) (ty := .int) (C := RX7) (T := TX7) (N := 22) hx hb ht inX7 tyX7 tyX7_ok nmX7 hown hK.1 hP2 hD2 hS2 0 rfl rfl 10 (by decide) (ht _ q_676) (fun _ h9 => h9) rfl (by decide +kernel) rfl rfl (Nat.le_of_ble_eq_true rfl) dX7_note_90 (fun H3 locs3 hP3 hD3 hS3 => ?_)
      have hP4 : va_P G.1 vwCl ([(h0, .inr (7, cM (upd (upd Z 10 (nI d)) 10 ((nI d) + 1)) q1 q2 q3 q4 q5 q6 q7 q8 q9 q10 q11 sd)), (q4, .inl (G.2.1, 55, .inl pg)), (q6, .inl (G.2.1, 770, .inl bk_1))]) H3 := hP3
      have hD5 : va_D A ([(h0, .inr (7, cM (upd (upd Z 10 (nI d)) 10 ((nI d) + 1)) q1 q2 q3 q4 q5 q6 q7 q8 q9 q10 q11 sd)), (q4, .inl (G.2.1, 55, .inl pg)), (q6, .inl (G.2.1, 770, .inl bk_1))]) := hD3
      have e0 : s_X7_note_d_bk d pg bk = bk_1 := by rw [hbk_1, l_X7_note_d_1_bk]
      exact k_vret kx hK hP4 hD5 hS3 (u := bk_1) rfl e0.symm dX7_note_93
    | succ n1 ih1 =>
      intro j1 bk_1 hj1 hbk_1 H2 locs2 ls2 hP2 hD2 hS2 hl2
      refine lv_iload_n hx hb dX7_note_51 rfl (lv_at hl2 1 rfl) ?_
      refine lv_bipush (v := 55) hx hb dX7_note_52 (by decide) ?_
      refine lv_icmp_ge (x := nI j1) (y := 55) (tgt := 83) hx hb dX7_note_54 (by decide) (fun (c3 : 55 ≤ nI j1) => absurd c3 (kle_s rfl hj1 (by decide))) (fun (c3 : ¬ (55 ≤ nI j1)) => ?_)
      refine lv_aload_n hx hb dX7_note_57 rfl (lv_at hl2 0 rfl) ?_
      refine va_get (ci := 7) (v := .ref q6) (C := RX7) (T := TX7) (N := 22) hx hb ht inX7 hown hK.1 hP2 0 rfl rfl 9 (by decide) (ht _ q_675) (fun _ h9 => h9) rfl dX7_note_58 ?_
      refine lv_bipush (v := 55) hx hb dX7_note_61 (by decide) ?_
      refine lv_aload_n hx hb dX7_note_63 rfl (lv_at hl2 0 rfl) ?_
      refine va_get (ci := 7) (v := .int (nI d)) (C := RX7) (T := TX7) (N := 22) hx hb ht inX7 hown hK.1 hP2 0 rfl rfl 10 (by decide) (ht _ q_676) (fun _ h9 => h9) rfl dX7_note_64 ?_
      refine lv_imul hx hb dX7_note_67 ?_
      refine lv_iload_n hx hb dX7_note_68 rfl (lv_at hl2 1 rfl) ?_
      refine lv_iadd hx hb dX7_note_69 ?_
      refine lv_aload_n hx hb dX7_note_70 rfl (lv_at hl2 0 rfl) ?_
      refine va_get (ci := 7) (v := .ref q4) (C := RX7) (T := TX7) (N := 22) hx hb ht inX7 hown hK.1 hP2 0 rfl rfl 7 (by decide) (ht _ q_673) (fun _ h9 => h9) rfl dX7_note_71 ?_
      refine lv_iload_n hx hb dX7_note_74 rfl (lv_at hl2 1 rfl) ?_
      refine k_iald (v := (pg j1)) kx hK hP2 1 rfl j1 rfl (by omega) (by decide) rfl dX7_note_75 ?_
      refine k_iast kx hK hP2 hD2 hS2 2 rfl ((55 * d) + j1) (kadd (kmul rfl rfl) rfl) (by omega) (by decide) dX7_note_76 (fun H6 locs6 hP6 hD6 hS6 => ?_)
      have hP7 : va_P G.1 vwCl ([(h0, .inr (7, cM (upd Z 10 (nI d)) q1 q2 q3 q4 q5 q6 q7 q8 q9 q10 q11 sd)), (q4, .inl (G.2.1, 55, .inl pg)), (q6, .inl (G.2.1, 770, .inl (upd bk_1 ((55 * d) + j1) (pg j1))))]) H6 := hP6
      have hD8 : va_D A ([(h0, .inr (7, cM (upd Z 10 (nI d)) q1 q2 q3 q4 q5 q6 q7 q8 q9 q10 q11 sd)), (q4, .inl (G.2.1, 55, .inl pg)), (q6, .inl (G.2.1, 770, .inl (upd bk_1 ((55 * d) + j1) (pg j1))))]) := hD6
      refine lv_iinc (v := nI (j1 + 1)) (lv' := [(1, .int (nI (j1 + 1))), (0, .ref h0)]) hx hb dX7_note_77 hl2 (k := 1) rfl (nI_1 j1) (by decide) rfl (fun ls9 hl9 => ?_)
      refine lv_goto (tgt := 51) hx hb dX7_note_80 (by decide) ?_
      have gbk : s_X7_note_d_bk d pg bk = l_X7_note_d_1_bk d pg n1 (j1 + 1) (upd bk_1 ((55 * d) + j1) (pg j1)) := by rw [hbk_1, l_X7_note_d_1_bk]
      exact ih1 (j1 + 1) (upd bk_1 ((55 * d) + j1) (pg j1)) (by omega) gbk _ _ _ hP7 hD8 hS6 (lv_sub hl9 [1, 0] rfl)
  have gbk : s_X7_note_d_bk d pg bk = l_X7_note_d_1_bk d pg 55 0 bk := by rw [s_X7_note_d_bk]
  exact lp1 55 0 bk (by omega) gbk _ _ _ hP hD hS (lv_sub hl1 [1, 0] rfl)

/-- what the book holds behind a note, and how many doings there are then -/
def kNoteB (d : Nat) (bk pg : Nat → Int32) : Nat → Int32 := if d = 14 then s_X7_note_f_bk pg bk else s_X7_note_d_bk d pg bk
def kNoteD (d : Nat) : Nat := if d = 14 then 14 else d + 1
theorem kNoteD_le {d : Nat} (h : d ≤ 14) : kNoteD d ≤ 14 := by unfold kNoteD; split <;> omega
theorem kcG_mono {l : Launch} {G : kG} {y : MethodName} {bytes : ByteArray} {maxL : Nat} {ret : Option FieldType} {k : Nat} {av : List Value} {pre : va_W} {Qc Qd : (Nat → Prop) → Array Value → State → Outcome → State → Prop} (h : cG l G y bytes maxL ret k av pre Qc) (hq : ∀ A a st o t, Qc A a st o t → Qd A a st o t) : cG l G y bytes maxL ret k av pre Qd := by
  intro sz p e h1 h2 h3 s m args below h4 h5 h6 h7
  obtain ⟨t, o, a1, a2, a3, a4, a5⟩ := h sz p e h1 h2 h3 s m args below h4 h5 h6 h7
  exact ⟨t, o, a1, a2, a3, hq _ _ _ _ _ a4, a5⟩

set_option maxHeartbeats 4000000 in
set_option maxRecDepth 100000 in
theorem c_X7_note (l : Launch) (G : kG) (Z : Nat → Int32) (d : Nat) (sd : Int64) (h0 : Nat) (q1 q2 q3 q4 q5 q6 q7 q8 q9 q10 q11 : Nat) (pg bk : Nat → Int32) (hd : d ≤ 14) : cG l G yX7_note cX7_note 2 none 0 [.ref h0] ([(h0, .inr (7, cM (upd Z 10 (nI d)) q1 q2 q3 q4 q5 q6 q7 q8 q9 q10 q11 sd)), (q4, .inl (G.2.1, 55, .inl pg)), (q6, .inl (G.2.1, 770, .inl bk))]) (qV G (fun u : (Nat → Int32) => u = kNoteB d bk pg) (fun u => [(h0, .inr (7, cM (upd Z 10 (nI (kNoteD d))) q1 q2 q3 q4 q5 q6 q7 q8 q9 q10 q11 sd)), (q4, .inl (G.2.1, 55, .inl pg)), (q6, .inl (G.2.1, 770, .inl u))])) := by
  by_cases h : d = 14
  · subst h
    exact c_X7_note_f l G Z sd h0 q1 q2 q3 q4 q5 q6 q7 q8 q9 q10 q11 pg bk
  · have e1 : kNoteB d bk pg = s_X7_note_d_bk d pg bk := if_neg h
    have e2 : nI (kNoteD d) = nI d + 1 := by rw [kNoteD, if_neg h]; exact (nI_1 d).symm
    rw [e1, e2]
    exact c_X7_note_d l G Z d sd h0 q1 q2 q3 q4 q5 q6 q7 q8 q9 q10 q11 pg bk (by omega)

def l_X7_pass_1_r : Nat → Nat → (Nat → Int32) → (Nat → Int32) → Int32
  | 0, j1, Z_1, pg_1 => pg_1 52
  | n1 + 1, j1, Z_1, pg_1 => l_X7_pass_1_r n1 (j1 + 1) (s_X7_tick_Z Z_1 pg_1) (s_X7_tick_f Z_1 pg_1)
def r_X7_pass (Z : Nat → Int32) (d : Nat) (pg : Nat → Int32) (p0 : Int32) : Int32 := if (r_X7_in p0.toInt64 1 30) = 0 then (-2) else l_X7_pass_1_r p0.toNatClampNeg 0 (upd (upd (upd (upd (upd Z 0 0) 10 (nI (kNoteD d))) 18 (-9)) 20 0) 21 6) pg
def l_X7_pass_1_Z : Nat → Nat → (Nat → Int32) → (Nat → Int32) → Nat → Int32
  | 0, j1, Z_1, pg_1 => Z_1
  | n1 + 1, j1, Z_1, pg_1 => l_X7_pass_1_Z n1 (j1 + 1) (s_X7_tick_Z Z_1 pg_1) (s_X7_tick_f Z_1 pg_1)
def s_X7_pass_Z (Z : Nat → Int32) (d : Nat) (pg : Nat → Int32) (p0 : Int32) : Nat → Int32 := if (r_X7_in p0.toInt64 1 30) = 0 then (upd (upd Z 10 (nI d)) 0 0) else l_X7_pass_1_Z p0.toNatClampNeg 0 (upd (upd (upd (upd (upd Z 0 0) 10 (nI (kNoteD d))) 18 (-9)) 20 0) 21 6) pg
def l_X7_pass_1_pg : Nat → Nat → (Nat → Int32) → (Nat → Int32) → Nat → Int32
  | 0, j1, Z_1, pg_1 => pg_1
  | n1 + 1, j1, Z_1, pg_1 => l_X7_pass_1_pg n1 (j1 + 1) (s_X7_tick_Z Z_1 pg_1) (s_X7_tick_f Z_1 pg_1)
def s_X7_pass_pg (Z : Nat → Int32) (d : Nat) (pg : Nat → Int32) (p0 : Int32) : Nat → Int32 := if (r_X7_in p0.toInt64 1 30) = 0 then pg else l_X7_pass_1_pg p0.toNatClampNeg 0 (upd (upd (upd (upd (upd Z 0 0) 10 (nI (kNoteD d))) 18 (-9)) 20 0) 21 6) pg
def l_X7_pass_1_tr (pg : Nat → Int32) (tr : Nat → Int32) : Nat → Nat → (Nat → Int32) → (Nat → Int32) → Nat → Int32
  | 0, j1, Z_1, pg_1 => s_X7_lay_t pg tr
  | n1 + 1, j1, Z_1, pg_1 => l_X7_pass_1_tr pg tr n1 (j1 + 1) (s_X7_tick_Z Z_1 pg_1) (s_X7_tick_f Z_1 pg_1)
def s_X7_pass_tr (Z : Nat → Int32) (d : Nat) (pg : Nat → Int32) (tr : Nat → Int32) (p0 : Int32) : Nat → Int32 := if (r_X7_in p0.toInt64 1 30) = 0 then tr else l_X7_pass_1_tr pg tr p0.toNatClampNeg 0 (upd (upd (upd (upd (upd Z 0 0) 10 (nI (kNoteD d))) 18 (-9)) 20 0) 21 6) pg
def l_X7_pass_1_bk (d : Nat) (pg : Nat → Int32) (bk : Nat → Int32) : Nat → Nat → (Nat → Int32) → (Nat → Int32) → Nat → Int32
  | 0, j1, Z_1, pg_1 => kNoteB d bk pg
  | n1 + 1, j1, Z_1, pg_1 => l_X7_pass_1_bk d pg bk n1 (j1 + 1) (s_X7_tick_Z Z_1 pg_1) (s_X7_tick_f Z_1 pg_1)
def s_X7_pass_bk (Z : Nat → Int32) (d : Nat) (pg : Nat → Int32) (bk : Nat → Int32) (p0 : Int32) : Nat → Int32 := if (r_X7_in p0.toInt64 1 30) = 0 then bk else l_X7_pass_1_bk d pg bk p0.toNatClampNeg 0 (upd (upd (upd (upd (upd Z 0 0) 10 (nI (kNoteD d))) 18 (-9)) 20 0) 21 6) pg
set_option maxHeartbeats 4000000 in
set_option maxRecDepth 100000 in
theorem c_X7_pass (l : Launch) (G : kG) (Z : Nat → Int32) (d : Nat) (sd : Int64) (h0 : Nat) (q1 : Nat) (q2 : Nat) (q3 : Nat) (q4 : Nat) (q5 : Nat) (q6 : Nat) (q7 : Nat) (q8 : Nat) (q9 : Nat) (q10 : Nat) (q11 : Nat) (pg : Nat → Int32) (tr : Nat → Int32) (bk : Nat → Int32) (p0 : Int32) (hd : d ≤ 14) : cG l G yX7_pass cX7_pass 3 (some .int) 5 [.ref h0, .int p0] ([(h0, .inr (7, cM (upd Z 10 (nI d)) q1 q2 q3 q4 q5 q6 q7 q8 q9 q10 q11 sd)), (q4, .inl (G.2.1, 55, .inl pg)), (q5, .inl (G.2.1, 55, .inl tr)), (q6, .inl (G.2.1, 770, .inl bk))]) (qI G (fun (r : Int32) (u : ((Nat → Int32) × (Nat → Int32) × (Nat → Int32) × (Nat → Int32))) => r = r_X7_pass Z d pg p0 ∧ u.1 = s_X7_pass_Z Z d pg p0 ∧ u.2.1 = s_X7_pass_pg Z d pg p0 ∧ u.2.2.1 = s_X7_pass_tr Z d pg tr p0 ∧ u.2.2.2 = s_X7_pass_bk Z d pg bk p0) (fun u => [(h0, .inr (7, cM u.1 q1 q2 q3 q4 q5 q6 q7 q8 q9 q10 q11 sd)), (q4, .inl (G.2.1, 55, .inl u.2.1)), (q5, .inl (G.2.1, 55, .inl u.2.2.1)), (q6, .inl (G.2.1, 770, .inl u.2.2.2))])) := by
  refine kintro (by decide) (Nat.le_of_ble_eq_true rfl) ?_
  intro p e s m args below meth c A ls kx hK hP hD hS hA hl
  have kx : kX p s m args meth c cX7_pass 3 (some .int) RX7 := kx
  have hx := kx.1
  have hb := kx.2.1
  have hown := kx.2.2.2.2.1
  have ht := kx.2.2.2.2.2.2
  have hl : lv_has ls 3 [(0, .ref h0), (1, .int p0)] := hl
  refine lv_aload_n hx hb dX7_pass_0 rfl (lv_at hl 0 rfl) ?_
  refine lv_iconst (v := 0) hx hb dX7_pass_1 (by decide) ?_
  refine va_put (ci := 7) (v := .int 0) (ty := .int) (C := RX7) (T := TX7) (N := 22) hx hb ht inX7 tyX7 tyX7_ok nmX7 hown hK.1 hP hD hS 0 rfl rfl 0 (by decide) (ht _ q_666) (fun _ h9 => h9) rfl (by decide +kernel) rfl rfl (Nat.le_of_ble_eq_true rfl) dX7_pass_2 (fun H1 locs1 hP1 hD1 hS1 => ?_)
  have hP2 : va_P G.1 vwCl ([(h0, .inr (7, cM (upd (upd Z 10 (nI d)) 0 0) q1 q2 q3 q4 q5 q6 q7 q8 q9 q10 q11 sd)), (q4, .inl (G.2.1, 55, .inl pg)), (q5, .inl (G.2.1, 55, .inl tr)), (q6, .inl (G.2.1, 770, .inl bk))]) H1 := hP1
  have hD3 : va_D A ([(h0, .inr (7, cM (upd (upd Z 10 (nI d)) 0 0) q1 q2 q3 q4 q5 q6 q7 q8 q9 q10 q11 sd)), (q4, .inl (G.2.1, 55, .inl pg)), (q5, .inl (G.2.1, 55, .inl tr)), (q6, .inl (G.2.1, 770, .inl bk))]) := hD1
  refine lv_iload_n hx hb dX7_pass_5 rfl (lv_at hl 1 rfl) ?_
  refine lv_i2l (v := p0.toInt64) hx hb dX7_pass_6 rfl ?_
  refine lv_lconst (v := 1) hx hb dX7_pass_7 (by decide) ?_
  refine lv_ldc2 (v := 30) hx hb hown (ht _ q_851) dX7_pass_8 ?_
  refine k_calli (kRunS (As := [.long p0.toInt64, .long 1, .long 30]) (rest := []) kx (c_X7_in l G p0.toInt64 1 30) q_740 q_738 q_36 q_739 nX7_in ⟨Nat.le_of_ble_eq_true rfl, Nat.le_of_ble_eq_true rfl⟩ hK hP2 hD3 (kCtx_nil _) rfl hl.1 (Nat.le_of_ble_eq_true rfl) dX7_pass_11 ⟨Nat.zero_le _, Nat.zero_le _⟩) hP2 hD3 hS1 hA (kCtx_nil _) (fun _ => rfl) (fun r1 _ H4 locs4 hw hP4 hD4 hS4 => ?_)
  have hr1 : r_X7_in p0.toInt64 1 30 = r1 := (show r1 = r_X7_in p0.toInt64 1 30 from hw).symm
  have hP5 : va_P G.1 vwCl ([(h0, .inr (7, cM (upd (upd Z 10 (nI d)) 0 0) q1 q2 q3 q4 q5 q6 q7 q8 q9 q10 q11 sd)), (q4, .inl (G.2.1, 55, .inl pg)), (q5, .inl (G.2.1, 55, .inl tr)), (q6, .inl (G.2.1, 770, .inl bk))]) H4 := hP4
  have hD6 : va_D A ([(h0, .inr (7, cM (upd (upd Z 10 (nI d)) 0 0) q1 q2 q3 q4 q5 q6 q7 q8 q9 q10 q11 sd)), (q4, .inl (G.2.1, 55, .inl pg)), (q5, .inl (G.2.1, 55, .inl tr)), (q6, .inl (G.2.1, 770, .inl bk))]) := hD4
  refine lv_if_ne (x := r1) (tgt := 20) hx hb dX7_pass_14 (by decide) (fun (c2 : ¬ (r1 = 0)) => ?_) (fun (c2 : r1 = 0) => ?_)
  · skip
    obtain ⟨nnc2, nmc2⟩ := kin_of (x := p0) (a := 1) (N := 30) (by rw [hr1]; exact c2) (by decide) (by decide)
    refine lv_aload_n hx hb dX7_pass_20 rfl (lv_at hl 0 rfl) ?_
    refine k_callv (kRunV (As := []) (rest := []) kx (c_X7_note l G (upd (upd Z 10 (nI d)) 0 0) d sd h0 q1 q2 q3 q4 q5 q6 q7 q8 q9 q10 q11 pg bk (by omega)) q_855 q_852 q_36 q_854 q_24 nX7_note ⟨Nat.le_of_ble_eq_true rfl, Nat.le_of_ble_eq_true rfl⟩ hK hP5 hD6 (kCtx_places _ _ [0, 1, 3] rfl rfl) 0 7 rfl rfl rfl rfl hl.1 (Nat.le_of_ble_eq_true rfl) dX7_pass_21 ⟨Nat.zero_le _, Nat.zero_le _⟩) hP5 hD6 hS4 hA (kCtx_places _ _ [0, 1, 3] rfl rfl) (fun _ => rfl) (fun F4 H7 locs7 hw hP7 hD7 hS7 => ?_)
    have hF4 : kNoteB d bk pg = F4 := (show F4 = kNoteB d bk pg from hw).symm
    have hP8 : va_P G.1 vwCl ([(h0, .inr (7, cM (upd (upd Z 0 0) 10 (nI (kNoteD d))) q1 q2 q3 q4 q5 q6 q7 q8 q9 q10 q11 sd)), (q4, .inl (G.2.1, 55, .inl pg)), (q5, .inl (G.2.1, 55, .inl tr)), (q6, .inl (G.2.1, 770, .inl F4))]) H7 := hP7
    have hD9 : va_D A ([(h0, .inr (7, cM (upd (upd Z 0 0) 10 (nI (kNoteD d))) q1 q2 q3 q4 q5 q6 q7 q8 q9 q10 q11 sd)), (q4, .inl (G.2.1, 55, .inl pg)), (q5, .inl (G.2.1, 55, .inl tr)), (q6, .inl (G.2.1, 770, .inl F4))]) := hD7
    refine lv_aload_n hx hb dX7_pass_24 rfl (lv_at hl 0 rfl) ?_
    refine k_callv (kRunV (As := []) (rest := []) kx (c_X7_layTrial l G (upd (upd Z 0 0) 10 (nI (kNoteD d))) sd h0 q1 q2 q3 q4 q5 q6 q7 q8 q9 q10 q11 pg tr) q_774 q_771 q_36 q_773 q_16 nX7_layTrial ⟨Nat.le_of_ble_eq_true rfl, Nat.le_of_ble_eq_true rfl⟩ hK hP8 hD9 (kCtx_places _ _ [0, 1, 2] rfl rfl) 0 7 rfl rfl rfl rfl hl.1 (Nat.le_of_ble_eq_true rfl) dX7_pass_25 ⟨Nat.zero_le _, Nat.zero_le _⟩) hP8 hD9 hS7 hA (kCtx_places _ _ [0, 1, 2] rfl rfl) (fun _ => rfl) (fun _ H10 locs10 hw hP10 hD10 hS10 => ?_)
    have hP11 : va_P G.1 vwCl ([(h0, .inr (7, cM (upd (upd (upd (upd (upd Z 0 0) 10 (nI (kNoteD d))) 18 (-9)) 20 0) 21 6) q1 q2 q3 q4 q5 q6 q7 q8 q9 q10 q11 sd)), (q4, .inl (G.2.1, 55, .inl pg)), (q5, .inl (G.2.1, 55, .inl (s_X7_lay_t pg tr))), (q6, .inl (G.2.1, 770, .inl F4))]) H10 := hP10
    have hD12 : va_D A ([(h0, .inr (7, cM (upd (upd (upd (upd (upd Z 0 0) 10 (nI (kNoteD d))) 18 (-9)) 20 0) 21 6) q1 q2 q3 q4 q5 q6 q7 q8 q9 q10 q11 sd)), (q4, .inl (G.2.1, 55, .inl pg)), (q5, .inl (G.2.1, 55, .inl (s_X7_lay_t pg tr))), (q6, .inl (G.2.1, 770, .inl F4))]) := hD10
    refine lv_iconst (v := 0) hx hb dX7_pass_28 (by decide) ?_
    refine lv_istore_n (lv' := [(2, .int 0), (0, .ref h0), (1, .int p0)]) hx hb dX7_pass_29 rfl hl (by decide) rfl (fun ls13 hl13 => ?_)
    subst hr1
    subst hF4
    have lp1 : ∀ (n1 j1 : Nat) (Z_1 : Nat → Int32) (pg_1 : Nat → Int32), j1 + n1 = p0.toNatClampNeg → (hr_1 : r_X7_pass Z d pg p0 = l_X7_pass_1_r n1 j1 Z_1 pg_1) → (hZ_1 : s_X7_pass_Z Z d pg p0 = l_X7_pass_1_Z n1 j1 Z_1 pg_1) → (hpg_1 : s_X7_pass_pg Z d pg p0 = l_X7_pass_1_pg n1 j1 Z_1 pg_1) → (htr_1 : s_X7_pass_tr Z d pg tr p0 = l_X7_pass_1_tr pg tr n1 j1 Z_1 pg_1) → (hbk_1 : s_X7_pass_bk Z d pg bk p0 = l_X7_pass_1_bk d pg bk n1 j1 Z_1 pg_1) → ∀ (H : Heap) (locs : List Loc) (ls : Array Slot), va_P G.1 vwCl ([(h0, .inr (7, cM Z_1 q1 q2 q3 q4 q5 q6 q7 q8 q9 q10 q11 sd)), (q4, .inl (G.2.1, 55, .inl pg_1)), (q5, .inl (G.2.1, 55, .inl (s_X7_lay_t pg tr))), (q6, .inl (G.2.1, 770, .inl (kNoteB d bk pg)))]) H → va_D A ([(h0, .inr (7, cM Z_1 q1 q2 q3 q4 q5 q6 q7 q8 q9 q10 q11 sd)), (q4, .inl (G.2.1, 55, .inl pg_1)), (q5, .inl (G.2.1, 55, .inl (s_X7_lay_t pg tr))), (q6, .inl (G.2.1, 770, .inl (kNoteB d bk pg)))]) → va_S A s.heap H locs → lv_has ls 3 [(0, .ref h0), (1, .int p0), (2, .int (nI j1))] → W p l e (kr 5) s m args below meth c H locs 0 0 (MQ below (qI G (fun (r : Int32) (u : ((Nat → Int32) × (Nat → Int32) × (Nat → Int32) × (Nat → Int32))) => r = r_X7_pass Z d pg p0 ∧ u.1 = s_X7_pass_Z Z d pg p0 ∧ u.2.1 = s_X7_pass_pg Z d pg p0 ∧ u.2.2.1 = s_X7_pass_tr Z d pg tr p0 ∧ u.2.2.2 = s_X7_pass_bk Z d pg bk p0) (fun u => [(h0, .inr (7, cM u.1 q1 q2 q3 q4 q5 q6 q7 q8 q9 q10 q11 sd)), (q4, .inl (G.2.1, 55, .inl u.2.1)), (q5, .inl (G.2.1, 55, .inl u.2.2.1)), (q6, .inl (G.2.1, 770, .inl u.2.2.2))]) A) args s 0 0 A) (F0 m 30 ls []) := by
      intro n1
      induction n1 with
      | zero =>
        intro j1 Z_1 pg_1 hj1 hr_1 hZ_1 hpg_1 htr_1 hbk_1 H14 locs14 ls14 hP14 hD14 hS14 hl14
        refine lv_iload_n hx hb dX7_pass_30 rfl (lv_at hl14 2 rfl) ?_
        refine lv_iload_n hx hb dX7_pass_31 rfl (lv_at hl14 1 rfl) ?_
        refine lv_icmp_ge (x := nI j1) (y := p0) (tgt := 49) hx hb dX7_pass_32 (by decide) (fun (c6 : p0 ≤ nI j1) => ?_) (fun (c6 : ¬ (p0 ≤ nI j1)) => absurd (krun_z hj1) c6)
        refine lv_aload_n hx hb dX7_pass_49 rfl (lv_at hl14 0 rfl) ?_
        refine va_get (ci := 7) (v := .ref q4) (C := RX7) (T := TX7) (N := 22) hx hb ht inX7 hown hK.1 hP14 0 rfl rfl 7 (by decide) (ht _ q_673) (fun _ h9 => h9) rfl dX7_pass_50 ?_
        refine lv_bipush (v := 52) hx hb dX7_pass_53 (by decide) ?_
        refine k_iald (v := (pg_1 52)) kx hK hP14 1 rfl 52 rfl (by decide) (by decide) rfl dX7_pass_55 ?_
        have er : r_X7_pass Z d pg p0 = pg_1 52 := by rw [hr_1, l_X7_pass_1_r]
        have e0 : s_X7_pass_Z Z d pg p0 = Z_1 := by rw [hZ_1, l_X7_pass_1_Z]
        have e1 : s_X7_pass_pg Z d pg p0 = pg_1 := by rw [hpg_1, l_X7_pass_1_pg]
        have e2 : s_X7_pass_tr Z d pg tr p0 = s_X7_lay_t pg tr := by rw [htr_1, l_X7_pass_1_tr]
        have e3 : s_X7_pass_bk Z d pg bk p0 = kNoteB d bk pg := by rw [hbk_1, l_X7_pass_1_bk]
        exact k_iret kx hK hP14 hD14 hS14 (u := (Z_1, pg_1, s_X7_lay_t pg tr, kNoteB d bk pg)) rfl ⟨er.symm, e0.symm, e1.symm, e2.symm, e3.symm⟩ dX7_pass_56
      | succ n1 ih1 =>
        intro j1 Z_1 pg_1 hj1 hr_1 hZ_1 hpg_1 htr_1 hbk_1 H14 locs14 ls14 hP14 hD14 hS14 hl14
        refine lv_iload_n hx hb dX7_pass_30 rfl (lv_at hl14 2 rfl) ?_
        refine lv_iload_n hx hb dX7_pass_31 rfl (lv_at hl14 1 rfl) ?_
        refine lv_icmp_ge (x := nI j1) (y := p0) (tgt := 49) hx hb dX7_pass_32 (by decide) (fun (c7 : p0 ≤ nI j1) => absurd c7 (krun_s hj1)) (fun (c7 : ¬ (p0 ≤ nI j1)) => ?_)
        refine lv_aload_n hx hb dX7_pass_35 rfl (lv_at hl14 0 rfl) ?_
        refine lv_aload_n hx hb dX7_pass_36 rfl (lv_at hl14 0 rfl) ?_
        refine va_get (ci := 7) (v := .ref q4) (C := RX7) (T := TX7) (N := 22) hx hb ht inX7 hown hK.1 hP14 0 rfl rfl 7 (by decide) (ht _ q_673) (fun _ h9 => h9) rfl dX7_pass_37 ?_
        refine k_callv (kRunV (As := [.ref q4]) (rest := []) kx (c_X7_tick l G Z_1 sd h0 q1 q2 q3 q4 q5 q6 q7 q8 q9 q10 q11 pg_1 q4) q_782 q_779 q_36 q_781 q_18 nX7_tick ⟨Nat.le_of_ble_eq_true rfl, Nat.le_of_ble_eq_true rfl⟩ hK hP14 hD14 (kCtx_places _ _ [0, 1] rfl rfl) 0 7 rfl rfl rfl rfl hl14.1 (Nat.le_of_ble_eq_true rfl) dX7_pass_40 ⟨Nat.zero_le _, Nat.zero_le _⟩) hP14 hD14 hS14 hA (kCtx_places _ _ [0, 1] rfl rfl) (fun _ => rfl) (fun u H15 locs15 hw hP15 hD15 hS15 => ?_)
        obtain ⟨F9, F10⟩ := u
        obtain ⟨hF9, hF10⟩ := hw
        have hF9 : s_X7_tick_Z Z_1 pg_1 = F9 := (show F9 = s_X7_tick_Z Z_1 pg_1 from hF9).symm
        have hF10 : s_X7_tick_f Z_1 pg_1 = F10 := (show F10 = s_X7_tick_f Z_1 pg_1 from hF10).symm
        have hP16 : va_P G.1 vwCl ([(h0, .inr (7, cM F9 q1 q2 q3 q4 q5 q6 q7 q8 q9 q10 q11 sd)), (q4, .inl (G.2.1, 55, .inl F10)), (q5, .inl (G.2.1, 55, .inl (s_X7_lay_t pg tr))), (q6, .inl (G.2.1, 770, .inl (kNoteB d bk pg)))]) H15 := hP15
        have hD17 : va_D A ([(h0, .inr (7, cM F9 q1 q2 q3 q4 q5 q6 q7 q8 q9 q10 q11 sd)), (q4, .inl (G.2.1, 55, .inl F10)), (q5, .inl (G.2.1, 55, .inl (s_X7_lay_t pg tr))), (q6, .inl (G.2.1, 770, .inl (kNoteB d bk pg)))]) := hD15
        refine lv_iinc (v := nI (j1 + 1)) (lv' := [(2, .int (nI (j1 + 1))), (0, .ref h0), (1, .int p0)]) hx hb dX7_pass_43 hl14 (k := 2) rfl (nI_1 j1) (by decide) rfl (fun ls18 hl18 => ?_)
        refine lv_goto (tgt := 30) hx hb dX7_pass_46 (by decide) ?_
        subst hF9
        subst hF10
        have gr : r_X7_pass Z d pg p0 = l_X7_pass_1_r n1 (j1 + 1) (s_X7_tick_Z Z_1 pg_1) (s_X7_tick_f Z_1 pg_1) := by rw [hr_1, l_X7_pass_1_r]
        have gZ : s_X7_pass_Z Z d pg p0 = l_X7_pass_1_Z n1 (j1 + 1) (s_X7_tick_Z Z_1 pg_1) (s_X7_tick_f Z_1 pg_1) := by rw [hZ_1, l_X7_pass_1_Z]
        have gpg : s_X7_pass_pg Z d pg p0 = l_X7_pass_1_pg n1 (j1 + 1) (s_X7_tick_Z Z_1 pg_1) (s_X7_tick_f Z_1 pg_1) := by rw [hpg_1, l_X7_pass_1_pg]
        have gtr : s_X7_pass_tr Z d pg tr p0 = l_X7_pass_1_tr pg tr n1 (j1 + 1) (s_X7_tick_Z Z_1 pg_1) (s_X7_tick_f Z_1 pg_1) := by rw [htr_1, l_X7_pass_1_tr]
        have gbk : s_X7_pass_bk Z d pg bk p0 = l_X7_pass_1_bk d pg bk n1 (j1 + 1) (s_X7_tick_Z Z_1 pg_1) (s_X7_tick_f Z_1 pg_1) := by rw [hbk_1, l_X7_pass_1_bk]
        exact ih1 (j1 + 1) (s_X7_tick_Z Z_1 pg_1) (s_X7_tick_f Z_1 pg_1) (by omega) gr gZ gpg gtr gbk _ _ _ hP16 hD17 hS15 (lv_sub hl18 [1, 2, 0] rfl)
    have gr : r_X7_pass Z d pg p0 = l_X7_pass_1_r p0.toNatClampNeg 0 (upd (upd (upd (upd (upd Z 0 0) 10 (nI (kNoteD d))) 18 (-9)) 20 0) 21 6) pg := by rw [r_X7_pass, if_neg c2]
    have gZ : s_X7_pass_Z Z d pg p0 = l_X7_pass_1_Z p0.toNatClampNeg 0 (upd (upd (upd (upd (upd Z 0 0) 10 (nI (kNoteD d))) 18 (-9)) 20 0) 21 6) pg := by rw [s_X7_pass_Z, if_neg c2]
    have gpg : s_X7_pass_pg Z d pg p0 = l_X7_pass_1_pg p0.toNatClampNeg 0 (upd (upd (upd (upd (upd Z 0 0) 10 (nI (kNoteD d))) 18 (-9)) 20 0) 21 6) pg := by rw [s_X7_pass_pg, if_neg c2]
    have gtr : s_X7_pass_tr Z d pg tr p0 = l_X7_pass_1_tr pg tr p0.toNatClampNeg 0 (upd (upd (upd (upd (upd Z 0 0) 10 (nI (kNoteD d))) 18 (-9)) 20 0) 21 6) pg := by rw [s_X7_pass_tr, if_neg c2]
    have gbk : s_X7_pass_bk Z d pg bk p0 = l_X7_pass_1_bk d pg bk p0.toNatClampNeg 0 (upd (upd (upd (upd (upd Z 0 0) 10 (nI (kNoteD d))) 18 (-9)) 20 0) 21 6) pg := by rw [s_X7_pass_bk, if_neg c2]
    exact lp1 p0.toNatClampNeg 0 (upd (upd (upd (upd (upd Z 0 0) 10 (nI (kNoteD d))) 18 (-9)) 20 0) 21 6) pg (by omega) gr gZ gpg gtr gbk _ _ _ hP11 hD12 hS10 (lv_sub hl13 [1, 2, 0] rfl)
  · skip
    refine lv_bipush (v := (-2)) hx hb dX7_pass_17 (by decide) ?_
    have er : r_X7_pass Z d pg p0 = (-2) := by rw [r_X7_pass]; (try rw [hr1]); rw [if_pos c2]
    have e0 : s_X7_pass_Z Z d pg p0 = upd (upd Z 10 (nI d)) 0 0 := by rw [s_X7_pass_Z]; (try rw [hr1]); rw [if_pos c2]
    have e1 : s_X7_pass_pg Z d pg p0 = pg := by rw [s_X7_pass_pg]; (try rw [hr1]); rw [if_pos c2]
    have e2 : s_X7_pass_tr Z d pg tr p0 = tr := by rw [s_X7_pass_tr]; (try rw [hr1]); rw [if_pos c2]
    have e3 : s_X7_pass_bk Z d pg bk p0 = bk := by rw [s_X7_pass_bk]; (try rw [hr1]); rw [if_pos c2]
    exact k_iret kx hK hP5 hD6 hS4 (u := (upd (upd Z 10 (nI d)) 0 0, pg, tr, bk)) rfl ⟨er.symm, e0.symm, e1.symm, e2.symm, e3.symm⟩ dX7_pass_19

def r_X7_tell_0 (pg : Nat → Int32) (p1 : Int32) (p2 : Int32) : Int32 := if (r_X7_in p1.toInt64 0 2) = 0 then (-2) else if p1 = 2 then (if (r_X7_in p2.toInt64 1 5) = 0 then (-2) else if p1 = 0 then (pg (0 + p1.toNatClampNeg)) else if p1 = 1 then (pg (0 + p1.toNatClampNeg)) else pg (0 + p1.toNatClampNeg)) else if (r_X7_in p2.toInt64 1 9) = 0 then (-2) else if p1 = 0 then (pg (0 + p1.toNatClampNeg)) else if p1 = 1 then (pg (0 + p1.toNatClampNeg)) else pg (0 + p1.toNatClampNeg)
def s_X7_tell_0_Z (Z : Nat → Int32) (d : Nat) (p1 : Int32) (p2 : Int32) : Nat → Int32 := if (r_X7_in p1.toInt64 0 2) = 0 then (upd (upd Z 10 (nI d)) 0 0) else if p1 = 2 then (if (r_X7_in p2.toInt64 1 5) = 0 then (upd (upd Z 10 (nI d)) 0 0) else if p1 = 0 then (upd (upd Z 0 0) 10 (nI (kNoteD d))) else if p1 = 1 then (upd (upd Z 0 0) 10 (nI (kNoteD d))) else upd (upd Z 0 0) 10 (nI (kNoteD d))) else if (r_X7_in p2.toInt64 1 9) = 0 then (upd (upd Z 10 (nI d)) 0 0) else if p1 = 0 then (upd (upd Z 0 0) 10 (nI (kNoteD d))) else if p1 = 1 then (upd (upd Z 0 0) 10 (nI (kNoteD d))) else upd (upd Z 0 0) 10 (nI (kNoteD d))
def s_X7_tell_0_pg (pg : Nat → Int32) (p1 : Int32) (p2 : Int32) : Nat → Int32 := if (r_X7_in p1.toInt64 0 2) = 0 then pg else if p1 = 2 then (if (r_X7_in p2.toInt64 1 5) = 0 then pg else if p1 = 0 then (s_X7_setTx_0_f pg p2) else if p1 = 1 then (s_X7_setRx_0_f pg p2) else upd pg 2 p2) else if (r_X7_in p2.toInt64 1 9) = 0 then pg else if p1 = 0 then (s_X7_setTx_0_f pg p2) else if p1 = 1 then (s_X7_setRx_0_f pg p2) else upd pg 2 p2
def s_X7_tell_0_bk (d : Nat) (pg : Nat → Int32) (bk : Nat → Int32) (p1 : Int32) (p2 : Int32) : Nat → Int32 := if (r_X7_in p1.toInt64 0 2) = 0 then bk else if p1 = 2 then (if (r_X7_in p2.toInt64 1 5) = 0 then bk else if p1 = 0 then (kNoteB d bk pg) else if p1 = 1 then (kNoteB d bk pg) else kNoteB d bk pg) else if (r_X7_in p2.toInt64 1 9) = 0 then bk else if p1 = 0 then (kNoteB d bk pg) else if p1 = 1 then (kNoteB d bk pg) else kNoteB d bk pg
set_option maxHeartbeats 4000000 in
set_option maxRecDepth 100000 in
theorem c_X7_tell_0 (l : Launch) (G : kG) (Z : Nat → Int32) (d : Nat) (sd : Int64) (h0 : Nat) (q1 : Nat) (q2 : Nat) (q3 : Nat) (q4 : Nat) (q5 : Nat) (q6 : Nat) (q7 : Nat) (q8 : Nat) (q9 : Nat) (q10 : Nat) (q11 : Nat) (pg : Nat → Int32) (bk : Nat → Int32) (p1 : Int32) (p2 : Int32) (hd : d ≤ 14) : cG l G yX7_tell cX7_tell 5 (some .int) 2 [.ref h0, .int 0, .int p1, .int p2] ([(h0, .inr (7, cM (upd Z 10 (nI d)) q1 q2 q3 q4 q5 q6 q7 q8 q9 q10 q11 sd)), (q4, .inl (G.2.1, 55, .inl pg)), (q6, .inl (G.2.1, 770, .inl bk))]) (qI G (fun (r : Int32) (u : ((Nat → Int32) × (Nat → Int32) × (Nat → Int32))) => r = r_X7_tell_0 pg p1 p2 ∧ u.1 = s_X7_tell_0_Z Z d p1 p2 ∧ u.2.1 = s_X7_tell_0_pg pg p1 p2 ∧ u.2.2 = s_X7_tell_0_bk d pg bk p1 p2) (fun u => [(h0, .inr (7, cM u.1 q1 q2 q3 q4 q5 q6 q7 q8 q9 q10 q11 sd)), (q4, .inl (G.2.1, 55, .inl u.2.1)), (q6, .inl (G.2.1, 770, .inl u.2.2))])) := by
  refine kintro (by decide) (Nat.le_of_ble_eq_true rfl) ?_
  intro p e s m args below meth c A ls kx hK hP hD hS hA hl
  have kx : kX p s m args meth c cX7_tell 5 (some .int) RX7 := kx
  have hx := kx.1
  have hb := kx.2.1
  have hown := kx.2.2.2.2.1
  have ht := kx.2.2.2.2.2.2
  have hl : lv_has ls 5 [(0, .ref h0), (1, .int 0), (2, .int p1), (3, .int p2)] := hl
  refine lv_aload_n hx hb dX7_tell_0 rfl (lv_at hl 0 rfl) ?_
  refine lv_iconst (v := 0) hx hb dX7_tell_1 (by decide) ?_
  refine va_put (ci := 7) (v := .int 0) (ty := .int) (C := RX7) (T := TX7) (N := 22) hx hb ht inX7 tyX7 tyX7_ok nmX7 hown hK.1 hP hD hS 0 rfl rfl 0 (by decide) (ht _ q_666) (fun _ h9 => h9) rfl (by decide +kernel) rfl rfl (Nat.le_of_ble_eq_true rfl) dX7_tell_2 (fun H1 locs1 hP1 hD1 hS1 => ?_)
  have hP2 : va_P G.1 vwCl ([(h0, .inr (7, cM (upd (upd Z 10 (nI d)) 0 0) q1 q2 q3 q4 q5 q6 q7 q8 q9 q10 q11 sd)), (q4, .inl (G.2.1, 55, .inl pg)), (q6, .inl (G.2.1, 770, .inl bk))]) H1 := hP1
  have hD3 : va_D A ([(h0, .inr (7, cM (upd (upd Z 10 (nI d)) 0 0) q1 q2 q3 q4 q5 q6 q7 q8 q9 q10 q11 sd)), (q4, .inl (G.2.1, 55, .inl pg)), (q6, .inl (G.2.1, 770, .inl bk))]) := hD1
  refine lv_iload_n hx hb dX7_tell_5 rfl (lv_at hl 1 rfl) ?_
  refine k_calli (kRunS (As := [.int 0]) (rest := []) kx (c_X7_noEnd_0 l G ) q_824 q_822 q_36 q_823 nX7_noEnd ⟨Nat.le_of_ble_eq_true rfl, Nat.le_of_ble_eq_true rfl⟩ hK hP2 hD3 (kCtx_nil _) rfl hl.1 (Nat.le_of_ble_eq_true rfl) dX7_tell_6 ⟨Nat.zero_le _, Nat.zero_le _⟩) hP2 hD3 hS1 hA (kCtx_nil _) (fun _ => rfl) (fun r1 _ H4 locs4 hw hP4 hD4 hS4 => ?_)
  have hr1 : 0 = r1 := (show r1 = 0 from hw).symm
  subst hr1
  have hP5 : va_P G.1 vwCl ([(h0, .inr (7, cM (upd (upd Z 10 (nI d)) 0 0) q1 q2 q3 q4 q5 q6 q7 q8 q9 q10 q11 sd)), (q4, .inl (G.2.1, 55, .inl pg)), (q6, .inl (G.2.1, 770, .inl bk))]) H4 := hP4
  have hD6 : va_D A ([(h0, .inr (7, cM (upd (upd Z 10 (nI d)) 0 0) q1 q2 q3 q4 q5 q6 q7 q8 q9 q10 q11 sd)), (q4, .inl (G.2.1, 55, .inl pg)), (q6, .inl (G.2.1, 770, .inl bk))]) := hD4
  refine lv_if_eq (x := 0) (tgt := 14) hx hb dX7_tell_9 (by decide) (fun (c2 : 0 = 0) => ?_) (fun (c2 : ¬ (0 = 0)) => absurd (by decide) c2)
  refine lv_iload_n hx hb dX7_tell_14 rfl (lv_at hl 2 rfl) ?_
  refine lv_i2l (v := p1.toInt64) hx hb dX7_tell_15 rfl ?_
  refine lv_lconst (v := 0) hx hb dX7_tell_16 (by decide) ?_
  refine lv_ldc2 (v := 2) hx hb hown (ht _ q_860) dX7_tell_17 ?_
  refine k_calli (kRunS (As := [.long p1.toInt64, .long 0, .long 2]) (rest := []) kx (c_X7_in l G p1.toInt64 0 2) q_740 q_738 q_36 q_739 nX7_in ⟨Nat.le_of_ble_eq_true rfl, Nat.le_of_ble_eq_true rfl⟩ hK hP5 hD6 (kCtx_nil _) rfl hl.1 (Nat.le_of_ble_eq_true rfl) dX7_tell_20 ⟨Nat.zero_le _, Nat.zero_le _⟩) hP5 hD6 hS4 hA (kCtx_nil _) (fun _ => rfl) (fun r3 _ H7 locs7 hw hP7 hD7 hS7 => ?_)
  have hr3 : r_X7_in p1.toInt64 0 2 = r3 := (show r3 = r_X7_in p1.toInt64 0 2 from hw).symm
  have hP8 : va_P G.1 vwCl ([(h0, .inr (7, cM (upd (upd Z 10 (nI d)) 0 0) q1 q2 q3 q4 q5 q6 q7 q8 q9 q10 q11 sd)), (q4, .inl (G.2.1, 55, .inl pg)), (q6, .inl (G.2.1, 770, .inl bk))]) H7 := hP7
  have hD9 : va_D A ([(h0, .inr (7, cM (upd (upd Z 10 (nI d)) 0 0) q1 q2 q3 q4 q5 q6 q7 q8 q9 q10 q11 sd)), (q4, .inl (G.2.1, 55, .inl pg)), (q6, .inl (G.2.1, 770, .inl bk))]) := hD7
  refine lv_if_eq (x := r3) (tgt := 49) hx hb dX7_tell_23 (by decide) (fun (c4 : r3 = 0) => ?_) (fun (c4 : ¬ (r3 = 0)) => ?_)
  · skip
    refine lv_bipush (v := (-2)) hx hb dX7_tell_49 (by decide) ?_
    have er : r_X7_tell_0 pg p1 p2 = (-2) := by rw [r_X7_tell_0]; (try rw [hr3]); rw [if_pos c4]
    have e0 : s_X7_tell_0_Z Z d p1 p2 = upd (upd Z 10 (nI d)) 0 0 := by rw [s_X7_tell_0_Z]; (try rw [hr3]); rw [if_pos c4]
    have e1 : s_X7_tell_0_pg pg p1 p2 = pg := by rw [s_X7_tell_0_pg]; (try rw [hr3]); rw [if_pos c4]
    have e2 : s_X7_tell_0_bk d pg bk p1 p2 = bk := by rw [s_X7_tell_0_bk]; (try rw [hr3]); rw [if_pos c4]
    exact k_iret kx hK hP8 hD9 hS7 (u := (upd (upd Z 10 (nI d)) 0 0, pg, bk)) rfl ⟨er.symm, e0.symm, e1.symm, e2.symm⟩ dX7_tell_51
  · skip
    obtain ⟨nnc4, nmc4⟩ := kin_of (x := p1) (a := 0) (N := 2) (by rw [hr3]; exact c4) (by decide) (by decide)
    refine lv_iload_n hx hb dX7_tell_26 rfl (lv_at hl 3 rfl) ?_
    refine lv_i2l (v := p2.toInt64) hx hb dX7_tell_27 rfl ?_
    refine lv_lconst (v := 1) hx hb dX7_tell_28 (by decide) ?_
    refine lv_iload_n hx hb dX7_tell_29 rfl (lv_at hl 2 rfl) ?_
    refine lv_iconst (v := 2) hx hb dX7_tell_30 (by decide) ?_
    refine lv_icmp_ne (x := p1) (y := 2) (tgt := 40) hx hb dX7_tell_31 (by decide) (fun (c5 : ¬ (p1 = 2)) => ?_) (fun (c5 : p1 = 2) => ?_)
    · skip
      refine lv_ldc2 (v := 9) hx hb hown (ht _ q_825) dX7_tell_40 ?_
      refine k_calli (kRunS (As := [.long p2.toInt64, .long 1, .long 9]) (rest := []) kx (c_X7_in l G p2.toInt64 1 9) q_740 q_738 q_36 q_739 nX7_in ⟨Nat.le_of_ble_eq_true rfl, Nat.le_of_ble_eq_true rfl⟩ hK hP8 hD9 (kCtx_nil _) rfl hl.1 (Nat.le_of_ble_eq_true rfl) dX7_tell_43 ⟨Nat.zero_le _, Nat.zero_le _⟩) hP8 hD9 hS7 hA (kCtx_nil _) (fun _ => rfl) (fun r6 _ H10 locs10 hw hP10 hD10 hS10 => ?_)
      have hr6 : r_X7_in p2.toInt64 1 9 = r6 := (show r6 = r_X7_in p2.toInt64 1 9 from hw).symm
      have hP11 : va_P G.1 vwCl ([(h0, .inr (7, cM (upd (upd Z 10 (nI d)) 0 0) q1 q2 q3 q4 q5 q6 q7 q8 q9 q10 q11 sd)), (q4, .inl (G.2.1, 55, .inl pg)), (q6, .inl (G.2.1, 770, .inl bk))]) H10 := hP10
      have hD12 : va_D A ([(h0, .inr (7, cM (upd (upd Z 10 (nI d)) 0 0) q1 q2 q3 q4 q5 q6 q7 q8 q9 q10 q11 sd)), (q4, .inl (G.2.1, 55, .inl pg)), (q6, .inl (G.2.1, 770, .inl bk))]) := hD10
      refine lv_if_ne (x := r6) (tgt := 52) hx hb dX7_tell_46 (by decide) (fun (c7 : ¬ (r6 = 0)) => ?_) (fun (c7 : r6 = 0) => ?_)
      · skip
        obtain ⟨nnc7, nmc7⟩ := kin_of (x := p2) (a := 1) (N := 9) (by rw [hr6]; exact c7) (by decide) (by decide)
        refine lv_aload_n hx hb dX7_tell_52 rfl (lv_at hl 0 rfl) ?_
        refine k_callv (kRunV (As := []) (rest := []) kx (c_X7_note l G (upd (upd Z 10 (nI d)) 0 0) d sd h0 q1 q2 q3 q4 q5 q6 q7 q8 q9 q10 q11 pg bk (by omega)) q_855 q_852 q_36 q_854 q_24 nX7_note ⟨Nat.le_of_ble_eq_true rfl, Nat.le_of_ble_eq_true rfl⟩ hK hP11 hD12 (kCtx_all _) 0 7 rfl rfl rfl rfl hl.1 (Nat.le_of_ble_eq_true rfl) dX7_tell_53 ⟨Nat.zero_le _, Nat.zero_le _⟩) hP11 hD12 hS10 hA (kCtx_all _) (fun _ => rfl) (fun F9 H13 locs13 hw hP13 hD13 hS13 => ?_)
        have hF9 : kNoteB d bk pg = F9 := (show F9 = kNoteB d bk pg from hw).symm
        have hP14 : va_P G.1 vwCl ([(h0, .inr (7, cM (upd (upd Z 0 0) 10 (nI (kNoteD d))) q1 q2 q3 q4 q5 q6 q7 q8 q9 q10 q11 sd)), (q4, .inl (G.2.1, 55, .inl pg)), (q6, .inl (G.2.1, 770, .inl F9))]) H13 := hP13
        have hD15 : va_D A ([(h0, .inr (7, cM (upd (upd Z 0 0) 10 (nI (kNoteD d))) q1 q2 q3 q4 q5 q6 q7 q8 q9 q10 q11 sd)), (q4, .inl (G.2.1, 55, .inl pg)), (q6, .inl (G.2.1, 770, .inl F9))]) := hD13
        refine lv_aload_n hx hb dX7_tell_56 rfl (lv_at hl 0 rfl) ?_
        refine va_get (ci := 7) (v := .ref q4) (C := RX7) (T := TX7) (N := 22) hx hb ht inX7 hown hK.1 hP14 0 rfl rfl 7 (by decide) (ht _ q_673) (fun _ h9 => h9) rfl dX7_tell_57 ?_
        refine lv_bipush (v := 16) hx hb dX7_tell_60 (by decide) ?_
        refine lv_iload_n hx hb dX7_tell_62 rfl (lv_at hl 1 rfl) ?_
        refine lv_imul hx hb dX7_tell_63 ?_
        refine k_top (y := 0) (by decide +kernel) ?_
        refine lv_iload_n hx hb dX7_tell_64 rfl (lv_at hl 2 rfl) ?_
        refine lv_iadd hx hb dX7_tell_65 ?_
        refine k_iald (v := (pg (0 + p1.toNatClampNeg))) kx hK hP14 1 rfl (0 + p1.toNatClampNeg) (kadd rfl nnc4) (by omega) (by decide) rfl dX7_tell_66 ?_
        refine lv_istore (lv' := [(4, .int (pg (0 + p1.toNatClampNeg))), (0, .ref h0), (1, .int 0), (2, .int p1), (3, .int p2)]) hx hb dX7_tell_67 hl (by decide) rfl (fun ls16 hl16 => ?_)
        refine lv_iload_n hx hb dX7_tell_69 rfl (lv_at hl16 3 rfl) ?_
        refine lv_if_ne (x := p1) (tgt := 88) hx hb dX7_tell_70 (by decide) (fun (c10 : ¬ (p1 = 0)) => ?_) (fun (c10 : p1 = 0) => ?_)
        · skip
          refine lv_iload_n hx hb dX7_tell_88 rfl (lv_at hl16 3 rfl) ?_
          refine lv_iconst (v := 1) hx hb dX7_tell_89 (by decide) ?_
          refine lv_icmp_ne (x := p1) (y := 1) (tgt := 108) hx hb dX7_tell_90 (by decide) (fun (c11 : ¬ (p1 = 1)) => ?_) (fun (c11 : p1 = 1) => ?_)
          · skip
            refine lv_aload_n hx hb dX7_tell_108 rfl (lv_at hl16 1 rfl) ?_
            refine va_get (ci := 7) (v := .ref q4) (C := RX7) (T := TX7) (N := 22) hx hb ht inX7 hown hK.1 hP14 0 rfl rfl 7 (by decide) (ht _ q_673) (fun _ h9 => h9) rfl dX7_tell_109 ?_
            refine lv_bipush (v := 16) hx hb dX7_tell_112 (by decide) ?_
            refine lv_iload_n hx hb dX7_tell_114 rfl (lv_at hl16 2 rfl) ?_
            refine lv_imul hx hb dX7_tell_115 ?_
            refine k_top (y := 0) (by decide +kernel) ?_
            refine lv_iconst (v := 2) hx hb dX7_tell_116 (by decide) ?_
            refine lv_iadd hx hb dX7_tell_117 ?_
            refine k_top (y := 2) (by decide +kernel) ?_
            refine lv_iload_n hx hb dX7_tell_118 rfl (lv_at hl16 4 rfl) ?_
            refine k_iast kx hK hP14 hD15 hS13 1 rfl 2 rfl (by decide) (by decide) dX7_tell_119 (fun H17 locs17 hP17 hD17 hS17 => ?_)
            have hP18 : va_P G.1 vwCl ([(h0, .inr (7, cM (upd (upd Z 0 0) 10 (nI (kNoteD d))) q1 q2 q3 q4 q5 q6 q7 q8 q9 q10 q11 sd)), (q4, .inl (G.2.1, 55, .inl (upd pg 2 p2))), (q6, .inl (G.2.1, 770, .inl F9))]) H17 := hP17
            have hD19 : va_D A ([(h0, .inr (7, cM (upd (upd Z 0 0) 10 (nI (kNoteD d))) q1 q2 q3 q4 q5 q6 q7 q8 q9 q10 q11 sd)), (q4, .inl (G.2.1, 55, .inl (upd pg 2 p2))), (q6, .inl (G.2.1, 770, .inl F9))]) := hD17
            refine lv_iload hx hb dX7_tell_120 (lv_at hl16 0 rfl) ?_
            have er : r_X7_tell_0 pg p1 p2 = pg (0 + p1.toNatClampNeg) := by rw [r_X7_tell_0]; (try rw [hr3]); (try rw [hr6]); (try rw [hF9]); rw [if_neg c4, if_neg c5, if_neg c7, if_neg c10, if_neg c11]
            have e0 : s_X7_tell_0_Z Z d p1 p2 = upd (upd Z 0 0) 10 (nI (kNoteD d)) := by rw [s_X7_tell_0_Z]; (try rw [hr3]); (try rw [hr6]); (try rw [hF9]); rw [if_neg c4, if_neg c5, if_neg c7, if_neg c10, if_neg c11]
            have e1 : s_X7_tell_0_pg pg p1 p2 = upd pg 2 p2 := by rw [s_X7_tell_0_pg]; (try rw [hr3]); (try rw [hr6]); (try rw [hF9]); rw [if_neg c4, if_neg c5, if_neg c7, if_neg c10, if_neg c11]
            have e2 : s_X7_tell_0_bk d pg bk p1 p2 = F9 := by rw [s_X7_tell_0_bk]; (try rw [hr3]); (try rw [hr6]); (try rw [hF9]); rw [if_neg c4, if_neg c5, if_neg c7, if_neg c10, if_neg c11]
            exact k_iret kx hK hP18 hD19 hS17 (u := (upd (upd Z 0 0) 10 (nI (kNoteD d)), upd pg 2 p2, F9)) rfl ⟨er.symm, e0.symm, e1.symm, e2.symm⟩ dX7_tell_122
          · skip
            refine lv_aload_n hx hb dX7_tell_93 rfl (lv_at hl16 1 rfl) ?_
            refine va_get (ci := 7) (v := .ref q4) (C := RX7) (T := TX7) (N := 22) hx hb ht inX7 hown hK.1 hP14 0 rfl rfl 7 (by decide) (ht _ q_673) (fun _ h9 => h9) rfl dX7_tell_94 ?_
            refine lv_bipush (v := 16) hx hb dX7_tell_97 (by decide) ?_
            refine lv_iload_n hx hb dX7_tell_99 rfl (lv_at hl16 2 rfl) ?_
            refine lv_imul hx hb dX7_tell_100 ?_
            refine k_top (y := 0) (by decide +kernel) ?_
            refine lv_iload_n hx hb dX7_tell_101 rfl (lv_at hl16 4 rfl) ?_
            refine k_callv (kRunS (As := [.ref q4, .int 0, .int p2]) (rest := []) kx (c_X7_setRx_0 l G pg q4 p2) q_870 q_868 q_36 q_869 nX7_setRx ⟨Nat.le_of_ble_eq_true rfl, Nat.le_of_ble_eq_true rfl⟩ hK hP14 hD15 (kCtx_places _ _ [1] rfl rfl) rfl hl16.1 (Nat.le_of_ble_eq_true rfl) dX7_tell_102 ⟨Nat.zero_le _, Nat.zero_le _⟩) hP14 hD15 hS13 hA (kCtx_places _ _ [1] rfl rfl) (fun _ => rfl) (fun F13 H20 locs20 hw hP20 hD20 hS20 => ?_)
            have hF13 : s_X7_setRx_0_f pg p2 = F13 := (show F13 = s_X7_setRx_0_f pg p2 from hw).symm
            have hP21 : va_P G.1 vwCl ([(h0, .inr (7, cM (upd (upd Z 0 0) 10 (nI (kNoteD d))) q1 q2 q3 q4 q5 q6 q7 q8 q9 q10 q11 sd)), (q4, .inl (G.2.1, 55, .inl F13)), (q6, .inl (G.2.1, 770, .inl F9))]) H20 := hP20
            have hD22 : va_D A ([(h0, .inr (7, cM (upd (upd Z 0 0) 10 (nI (kNoteD d))) q1 q2 q3 q4 q5 q6 q7 q8 q9 q10 q11 sd)), (q4, .inl (G.2.1, 55, .inl F13)), (q6, .inl (G.2.1, 770, .inl F9))]) := hD20
            refine lv_goto (tgt := 120) hx hb dX7_tell_105 (by decide) ?_
            refine lv_iload hx hb dX7_tell_120 (lv_at hl16 0 rfl) ?_
            have er : r_X7_tell_0 pg p1 p2 = pg (0 + p1.toNatClampNeg) := by rw [r_X7_tell_0]; (try rw [hr3]); (try rw [hr6]); (try rw [hF9]); (try rw [hF13]); rw [if_neg c4, if_neg c5, if_neg c7, if_neg c10, if_pos c11]
            have e0 : s_X7_tell_0_Z Z d p1 p2 = upd (upd Z 0 0) 10 (nI (kNoteD d)) := by rw [s_X7_tell_0_Z]; (try rw [hr3]); (try rw [hr6]); (try rw [hF9]); (try rw [hF13]); rw [if_neg c4, if_neg c5, if_neg c7, if_neg c10, if_pos c11]
            have e1 : s_X7_tell_0_pg pg p1 p2 = F13 := by rw [s_X7_tell_0_pg]; (try rw [hr3]); (try rw [hr6]); (try rw [hF9]); (try rw [hF13]); rw [if_neg c4, if_neg c5, if_neg c7, if_neg c10, if_pos c11]
            have e2 : s_X7_tell_0_bk d pg bk p1 p2 = F9 := by rw [s_X7_tell_0_bk]; (try rw [hr3]); (try rw [hr6]); (try rw [hF9]); (try rw [hF13]); rw [if_neg c4, if_neg c5, if_neg c7, if_neg c10, if_pos c11]
            exact k_iret kx hK hP21 hD22 hS20 (u := (upd (upd Z 0 0) 10 (nI (kNoteD d)), F13, F9)) rfl ⟨er.symm, e0.symm, e1.symm, e2.symm⟩ dX7_tell_122
        · skip
          refine lv_aload_n hx hb dX7_tell_73 rfl (lv_at hl16 1 rfl) ?_
          refine va_get (ci := 7) (v := .ref q4) (C := RX7) (T := TX7) (N := 22) hx hb ht inX7 hown hK.1 hP14 0 rfl rfl 7 (by decide) (ht _ q_673) (fun _ h9 => h9) rfl dX7_tell_74 ?_
          refine lv_bipush (v := 16) hx hb dX7_tell_77 (by decide) ?_
          refine lv_iload_n hx hb dX7_tell_79 rfl (lv_at hl16 2 rfl) ?_
          refine lv_imul hx hb dX7_tell_80 ?_
          refine k_top (y := 0) (by decide +kernel) ?_
          refine lv_iload_n hx hb dX7_tell_81 rfl (lv_at hl16 4 rfl) ?_
          refine k_callv (kRunS (As := [.ref q4, .int 0, .int p2]) (rest := []) kx (c_X7_setTx_0 l G pg q4 p2) q_864 q_862 q_36 q_863 nX7_setTx ⟨Nat.le_of_ble_eq_true rfl, Nat.le_of_ble_eq_true rfl⟩ hK hP14 hD15 (kCtx_places _ _ [1] rfl rfl) rfl hl16.1 (Nat.le_of_ble_eq_true rfl) dX7_tell_82 ⟨Nat.zero_le _, Nat.zero_le _⟩) hP14 hD15 hS13 hA (kCtx_places _ _ [1] rfl rfl) (fun _ => rfl) (fun F15 H23 locs23 hw hP23 hD23 hS23 => ?_)
          have hF15 : s_X7_setTx_0_f pg p2 = F15 := (show F15 = s_X7_setTx_0_f pg p2 from hw).symm
          have hP24 : va_P G.1 vwCl ([(h0, .inr (7, cM (upd (upd Z 0 0) 10 (nI (kNoteD d))) q1 q2 q3 q4 q5 q6 q7 q8 q9 q10 q11 sd)), (q4, .inl (G.2.1, 55, .inl F15)), (q6, .inl (G.2.1, 770, .inl F9))]) H23 := hP23
          have hD25 : va_D A ([(h0, .inr (7, cM (upd (upd Z 0 0) 10 (nI (kNoteD d))) q1 q2 q3 q4 q5 q6 q7 q8 q9 q10 q11 sd)), (q4, .inl (G.2.1, 55, .inl F15)), (q6, .inl (G.2.1, 770, .inl F9))]) := hD23
          refine lv_goto (tgt := 120) hx hb dX7_tell_85 (by decide) ?_
          refine lv_iload hx hb dX7_tell_120 (lv_at hl16 0 rfl) ?_
          have er : r_X7_tell_0 pg p1 p2 = pg (0 + p1.toNatClampNeg) := by rw [r_X7_tell_0]; (try rw [hr3]); (try rw [hr6]); (try rw [hF9]); (try rw [hF15]); rw [if_neg c4, if_neg c5, if_neg c7, if_pos c10]
          have e0 : s_X7_tell_0_Z Z d p1 p2 = upd (upd Z 0 0) 10 (nI (kNoteD d)) := by rw [s_X7_tell_0_Z]; (try rw [hr3]); (try rw [hr6]); (try rw [hF9]); (try rw [hF15]); rw [if_neg c4, if_neg c5, if_neg c7, if_pos c10]
          have e1 : s_X7_tell_0_pg pg p1 p2 = F15 := by rw [s_X7_tell_0_pg]; (try rw [hr3]); (try rw [hr6]); (try rw [hF9]); (try rw [hF15]); rw [if_neg c4, if_neg c5, if_neg c7, if_pos c10]
          have e2 : s_X7_tell_0_bk d pg bk p1 p2 = F9 := by rw [s_X7_tell_0_bk]; (try rw [hr3]); (try rw [hr6]); (try rw [hF9]); (try rw [hF15]); rw [if_neg c4, if_neg c5, if_neg c7, if_pos c10]
          exact k_iret kx hK hP24 hD25 hS23 (u := (upd (upd Z 0 0) 10 (nI (kNoteD d)), F15, F9)) rfl ⟨er.symm, e0.symm, e1.symm, e2.symm⟩ dX7_tell_122
      · skip
        refine lv_bipush (v := (-2)) hx hb dX7_tell_49 (by decide) ?_
        have er : r_X7_tell_0 pg p1 p2 = (-2) := by rw [r_X7_tell_0]; (try rw [hr3]); (try rw [hr6]); rw [if_neg c4, if_neg c5, if_pos c7]
        have e0 : s_X7_tell_0_Z Z d p1 p2 = upd (upd Z 10 (nI d)) 0 0 := by rw [s_X7_tell_0_Z]; (try rw [hr3]); (try rw [hr6]); rw [if_neg c4, if_neg c5, if_pos c7]
        have e1 : s_X7_tell_0_pg pg p1 p2 = pg := by rw [s_X7_tell_0_pg]; (try rw [hr3]); (try rw [hr6]); rw [if_neg c4, if_neg c5, if_pos c7]
        have e2 : s_X7_tell_0_bk d pg bk p1 p2 = bk := by rw [s_X7_tell_0_bk]; (try rw [hr3]); (try rw [hr6]); rw [if_neg c4, if_neg c5, if_pos c7]
        exact k_iret kx hK hP11 hD12 hS10 (u := (upd (upd Z 10 (nI d)) 0 0, pg, bk)) rfl ⟨er.symm, e0.symm, e1.symm, e2.symm⟩ dX7_tell_51
    · skip
      refine lv_ldc2 (v := 5) hx hb hown (ht _ q_861) dX7_tell_34 ?_
      refine lv_goto (tgt := 43) hx hb dX7_tell_37 (by decide) ?_
      refine k_calli (kRunS (As := [.long p2.toInt64, .long 1, .long 5]) (rest := []) kx (c_X7_in l G p2.toInt64 1 5) q_740 q_738 q_36 q_739 nX7_in ⟨Nat.le_of_ble_eq_true rfl, Nat.le_of_ble_eq_true rfl⟩ hK hP8 hD9 (kCtx_nil _) rfl hl.1 (Nat.le_of_ble_eq_true rfl) dX7_tell_43 ⟨Nat.zero_le _, Nat.zero_le _⟩) hP8 hD9 hS7 hA (kCtx_nil _) (fun _ => rfl) (fun r16 _ H26 locs26 hw hP26 hD26 hS26 => ?_)
      have hr16 : r_X7_in p2.toInt64 1 5 = r16 := (show r16 = r_X7_in p2.toInt64 1 5 from hw).symm
      have hP27 : va_P G.1 vwCl ([(h0, .inr (7, cM (upd (upd Z 10 (nI d)) 0 0) q1 q2 q3 q4 q5 q6 q7 q8 q9 q10 q11 sd)), (q4, .inl (G.2.1, 55, .inl pg)), (q6, .inl (G.2.1, 770, .inl bk))]) H26 := hP26
      have hD28 : va_D A ([(h0, .inr (7, cM (upd (upd Z 10 (nI d)) 0 0) q1 q2 q3 q4 q5 q6 q7 q8 q9 q10 q11 sd)), (q4, .inl (G.2.1, 55, .inl pg)), (q6, .inl (G.2.1, 770, .inl bk))]) := hD26
      refine lv_if_ne (x := r16) (tgt := 52) hx hb dX7_tell_46 (by decide) (fun (c17 : ¬ (r16 = 0)) => ?_) (fun (c17 : r16 = 0) => ?_)
      · skip
        obtain ⟨nnc17, nmc17⟩ := kin_of (x := p2) (a := 1) (N := 5) (by rw [hr16]; exact c17) (by decide) (by decide)
        refine lv_aload_n hx hb dX7_tell_52 rfl (lv_at hl 0 rfl) ?_
        refine k_callv (kRunV (As := []) (rest := []) kx (c_X7_note l G (upd (upd Z 10 (nI d)) 0 0) d sd h0 q1 q2 q3 q4 q5 q6 q7 q8 q9 q10 q11 pg bk (by omega)) q_855 q_852 q_36 q_854 q_24 nX7_note ⟨Nat.le_of_ble_eq_true rfl, Nat.le_of_ble_eq_true rfl⟩ hK hP27 hD28 (kCtx_all _) 0 7 rfl rfl rfl rfl hl.1 (Nat.le_of_ble_eq_true rfl) dX7_tell_53 ⟨Nat.zero_le _, Nat.zero_le _⟩) hP27 hD28 hS26 hA (kCtx_all _) (fun _ => rfl) (fun F19 H29 locs29 hw hP29 hD29 hS29 => ?_)
        have hF19 : kNoteB d bk pg = F19 := (show F19 = kNoteB d bk pg from hw).symm
        have hP30 : va_P G.1 vwCl ([(h0, .inr (7, cM (upd (upd Z 0 0) 10 (nI (kNoteD d))) q1 q2 q3 q4 q5 q6 q7 q8 q9 q10 q11 sd)), (q4, .inl (G.2.1, 55, .inl pg)), (q6, .inl (G.2.1, 770, .inl F19))]) H29 := hP29
        have hD31 : va_D A ([(h0, .inr (7, cM (upd (upd Z 0 0) 10 (nI (kNoteD d))) q1 q2 q3 q4 q5 q6 q7 q8 q9 q10 q11 sd)), (q4, .inl (G.2.1, 55, .inl pg)), (q6, .inl (G.2.1, 770, .inl F19))]) := hD29
        refine lv_aload_n hx hb dX7_tell_56 rfl (lv_at hl 0 rfl) ?_
        refine va_get (ci := 7) (v := .ref q4) (C := RX7) (T := TX7) (N := 22) hx hb ht inX7 hown hK.1 hP30 0 rfl rfl 7 (by decide) (ht _ q_673) (fun _ h9 => h9) rfl dX7_tell_57 ?_
        refine lv_bipush (v := 16) hx hb dX7_tell_60 (by decide) ?_
        refine lv_iload_n hx hb dX7_tell_62 rfl (lv_at hl 1 rfl) ?_
        refine lv_imul hx hb dX7_tell_63 ?_
        refine k_top (y := 0) (by decide +kernel) ?_
        refine lv_iload_n hx hb dX7_tell_64 rfl (lv_at hl 2 rfl) ?_
        refine lv_iadd hx hb dX7_tell_65 ?_
        refine k_iald (v := (pg (0 + p1.toNatClampNeg))) kx hK hP30 1 rfl (0 + p1.toNatClampNeg) (kadd rfl nnc4) (by omega) (by decide) rfl dX7_tell_66 ?_
        refine lv_istore (lv' := [(4, .int (pg (0 + p1.toNatClampNeg))), (0, .ref h0), (1, .int 0), (2, .int p1), (3, .int p2)]) hx hb dX7_tell_67 hl (by decide) rfl (fun ls32 hl32 => ?_)
        refine lv_iload_n hx hb dX7_tell_69 rfl (lv_at hl32 3 rfl) ?_
        refine lv_if_ne (x := p1) (tgt := 88) hx hb dX7_tell_70 (by decide) (fun (c20 : ¬ (p1 = 0)) => ?_) (fun (c20 : p1 = 0) => ?_)
        · skip
          refine lv_iload_n hx hb dX7_tell_88 rfl (lv_at hl32 3 rfl) ?_
          refine lv_iconst (v := 1) hx hb dX7_tell_89 (by decide) ?_
          refine lv_icmp_ne (x := p1) (y := 1) (tgt := 108) hx hb dX7_tell_90 (by decide) (fun (c21 : ¬ (p1 = 1)) => ?_) (fun (c21 : p1 = 1) => ?_)
          · skip
            refine lv_aload_n hx hb dX7_tell_108 rfl (lv_at hl32 1 rfl) ?_
            refine va_get (ci := 7) (v := .ref q4) (C := RX7) (T := TX7) (N := 22) hx hb ht inX7 hown hK.1 hP30 0 rfl rfl 7 (by decide) (ht _ q_673) (fun _ h9 => h9) rfl dX7_tell_109 ?_
            refine lv_bipush (v := 16) hx hb dX7_tell_112 (by decide) ?_
            refine lv_iload_n hx hb dX7_tell_114 rfl (lv_at hl32 2 rfl) ?_
            refine lv_imul hx hb dX7_tell_115 ?_
            refine k_top (y := 0) (by decide +kernel) ?_
            refine lv_iconst (v := 2) hx hb dX7_tell_116 (by decide) ?_
            refine lv_iadd hx hb dX7_tell_117 ?_
            refine k_top (y := 2) (by decide +kernel) ?_
            refine lv_iload_n hx hb dX7_tell_118 rfl (lv_at hl32 4 rfl) ?_
            refine k_iast kx hK hP30 hD31 hS29 1 rfl 2 rfl (by decide) (by decide) dX7_tell_119 (fun H33 locs33 hP33 hD33 hS33 => ?_)
            have hP34 : va_P G.1 vwCl ([(h0, .inr (7, cM (upd (upd Z 0 0) 10 (nI (kNoteD d))) q1 q2 q3 q4 q5 q6 q7 q8 q9 q10 q11 sd)), (q4, .inl (G.2.1, 55, .inl (upd pg 2 p2))), (q6, .inl (G.2.1, 770, .inl F19))]) H33 := hP33
            have hD35 : va_D A ([(h0, .inr (7, cM (upd (upd Z 0 0) 10 (nI (kNoteD d))) q1 q2 q3 q4 q5 q6 q7 q8 q9 q10 q11 sd)), (q4, .inl (G.2.1, 55, .inl (upd pg 2 p2))), (q6, .inl (G.2.1, 770, .inl F19))]) := hD33
            refine lv_iload hx hb dX7_tell_120 (lv_at hl32 0 rfl) ?_
            have er : r_X7_tell_0 pg p1 p2 = pg (0 + p1.toNatClampNeg) := by rw [r_X7_tell_0]; (try rw [hr3]); (try rw [hr16]); (try rw [hF19]); rw [if_neg c4, if_pos c5, if_neg c17, if_neg c20, if_neg c21]
            have e0 : s_X7_tell_0_Z Z d p1 p2 = upd (upd Z 0 0) 10 (nI (kNoteD d)) := by rw [s_X7_tell_0_Z]; (try rw [hr3]); (try rw [hr16]); (try rw [hF19]); rw [if_neg c4, if_pos c5, if_neg c17, if_neg c20, if_neg c21]
            have e1 : s_X7_tell_0_pg pg p1 p2 = upd pg 2 p2 := by rw [s_X7_tell_0_pg]; (try rw [hr3]); (try rw [hr16]); (try rw [hF19]); rw [if_neg c4, if_pos c5, if_neg c17, if_neg c20, if_neg c21]
            have e2 : s_X7_tell_0_bk d pg bk p1 p2 = F19 := by rw [s_X7_tell_0_bk]; (try rw [hr3]); (try rw [hr16]); (try rw [hF19]); rw [if_neg c4, if_pos c5, if_neg c17, if_neg c20, if_neg c21]
            exact k_iret kx hK hP34 hD35 hS33 (u := (upd (upd Z 0 0) 10 (nI (kNoteD d)), upd pg 2 p2, F19)) rfl ⟨er.symm, e0.symm, e1.symm, e2.symm⟩ dX7_tell_122
          · skip
            refine lv_aload_n hx hb dX7_tell_93 rfl (lv_at hl32 1 rfl) ?_
            refine va_get (ci := 7) (v := .ref q4) (C := RX7) (T := TX7) (N := 22) hx hb ht inX7 hown hK.1 hP30 0 rfl rfl 7 (by decide) (ht _ q_673) (fun _ h9 => h9) rfl dX7_tell_94 ?_
            refine lv_bipush (v := 16) hx hb dX7_tell_97 (by decide) ?_
            refine lv_iload_n hx hb dX7_tell_99 rfl (lv_at hl32 2 rfl) ?_
            refine lv_imul hx hb dX7_tell_100 ?_
            refine k_top (y := 0) (by decide +kernel) ?_
            refine lv_iload_n hx hb dX7_tell_101 rfl (lv_at hl32 4 rfl) ?_
            refine k_callv (kRunS (As := [.ref q4, .int 0, .int p2]) (rest := []) kx (c_X7_setRx_0 l G pg q4 p2) q_870 q_868 q_36 q_869 nX7_setRx ⟨Nat.le_of_ble_eq_true rfl, Nat.le_of_ble_eq_true rfl⟩ hK hP30 hD31 (kCtx_places _ _ [1] rfl rfl) rfl hl32.1 (Nat.le_of_ble_eq_true rfl) dX7_tell_102 ⟨Nat.zero_le _, Nat.zero_le _⟩) hP30 hD31 hS29 hA (kCtx_places _ _ [1] rfl rfl) (fun _ => rfl) (fun F23 H36 locs36 hw hP36 hD36 hS36 => ?_)
            have hF23 : s_X7_setRx_0_f pg p2 = F23 := (show F23 = s_X7_setRx_0_f pg p2 from hw).symm
            have hP37 : va_P G.1 vwCl ([(h0, .inr (7, cM (upd (upd Z 0 0) 10 (nI (kNoteD d))) q1 q2 q3 q4 q5 q6 q7 q8 q9 q10 q11 sd)), (q4, .inl (G.2.1, 55, .inl F23)), (q6, .inl (G.2.1, 770, .inl F19))]) H36 := hP36
            have hD38 : va_D A ([(h0, .inr (7, cM (upd (upd Z 0 0) 10 (nI (kNoteD d))) q1 q2 q3 q4 q5 q6 q7 q8 q9 q10 q11 sd)), (q4, .inl (G.2.1, 55, .inl F23)), (q6, .inl (G.2.1, 770, .inl F19))]) := hD36
            refine lv_goto (tgt := 120) hx hb dX7_tell_105 (by decide) ?_
            refine lv_iload hx hb dX7_tell_120 (lv_at hl32 0 rfl) ?_
            have er : r_X7_tell_0 pg p1 p2 = pg (0 + p1.toNatClampNeg) := by rw [r_X7_tell_0]; (try rw [hr3]); (try rw [hr16]); (try rw [hF19]); (try rw [hF23]); rw [if_neg c4, if_pos c5, if_neg c17, if_neg c20, if_pos c21]
            have e0 : s_X7_tell_0_Z Z d p1 p2 = upd (upd Z 0 0) 10 (nI (kNoteD d)) := by rw [s_X7_tell_0_Z]; (try rw [hr3]); (try rw [hr16]); (try rw [hF19]); (try rw [hF23]); rw [if_neg c4, if_pos c5, if_neg c17, if_neg c20, if_pos c21]
            have e1 : s_X7_tell_0_pg pg p1 p2 = F23 := by rw [s_X7_tell_0_pg]; (try rw [hr3]); (try rw [hr16]); (try rw [hF19]); (try rw [hF23]); rw [if_neg c4, if_pos c5, if_neg c17, if_neg c20, if_pos c21]
            have e2 : s_X7_tell_0_bk d pg bk p1 p2 = F19 := by rw [s_X7_tell_0_bk]; (try rw [hr3]); (try rw [hr16]); (try rw [hF19]); (try rw [hF23]); rw [if_neg c4, if_pos c5, if_neg c17, if_neg c20, if_pos c21]
            exact k_iret kx hK hP37 hD38 hS36 (u := (upd (upd Z 0 0) 10 (nI (kNoteD d)), F23, F19)) rfl ⟨er.symm, e0.symm, e1.symm, e2.symm⟩ dX7_tell_122
        · skip
          refine lv_aload_n hx hb dX7_tell_73 rfl (lv_at hl32 1 rfl) ?_
          refine va_get (ci := 7) (v := .ref q4) (C := RX7) (T := TX7) (N := 22) hx hb ht inX7 hown hK.1 hP30 0 rfl rfl 7 (by decide) (ht _ q_673) (fun _ h9 => h9) rfl dX7_tell_74 ?_
          refine lv_bipush (v := 16) hx hb dX7_tell_77 (by decide) ?_
          refine lv_iload_n hx hb dX7_tell_79 rfl (lv_at hl32 2 rfl) ?_
          refine lv_imul hx hb dX7_tell_80 ?_
          refine k_top (y := 0) (by decide +kernel) ?_
          refine lv_iload_n hx hb dX7_tell_81 rfl (lv_at hl32 4 rfl) ?_
          refine k_callv (kRunS (As := [.ref q4, .int 0, .int p2]) (rest := []) kx (c_X7_setTx_0 l G pg q4 p2) q_864 q_862 q_36 q_863 nX7_setTx ⟨Nat.le_of_ble_eq_true rfl, Nat.le_of_ble_eq_true rfl⟩ hK hP30 hD31 (kCtx_places _ _ [1] rfl rfl) rfl hl32.1 (Nat.le_of_ble_eq_true rfl) dX7_tell_82 ⟨Nat.zero_le _, Nat.zero_le _⟩) hP30 hD31 hS29 hA (kCtx_places _ _ [1] rfl rfl) (fun _ => rfl) (fun F25 H39 locs39 hw hP39 hD39 hS39 => ?_)
          have hF25 : s_X7_setTx_0_f pg p2 = F25 := (show F25 = s_X7_setTx_0_f pg p2 from hw).symm
          have hP40 : va_P G.1 vwCl ([(h0, .inr (7, cM (upd (upd Z 0 0) 10 (nI (kNoteD d))) q1 q2 q3 q4 q5 q6 q7 q8 q9 q10 q11 sd)), (q4, .inl (G.2.1, 55, .inl F25)), (q6, .inl (G.2.1, 770, .inl F19))]) H39 := hP39
          have hD41 : va_D A ([(h0, .inr (7, cM (upd (upd Z 0 0) 10 (nI (kNoteD d))) q1 q2 q3 q4 q5 q6 q7 q8 q9 q10 q11 sd)), (q4, .inl (G.2.1, 55, .inl F25)), (q6, .inl (G.2.1, 770, .inl F19))]) := hD39
          refine lv_goto (tgt := 120) hx hb dX7_tell_85 (by decide) ?_
          refine lv_iload hx hb dX7_tell_120 (lv_at hl32 0 rfl) ?_
          have er : r_X7_tell_0 pg p1 p2 = pg (0 + p1.toNatClampNeg) := by rw [r_X7_tell_0]; (try rw [hr3]); (try rw [hr16]); (try rw [hF19]); (try rw [hF25]); rw [if_neg c4, if_pos c5, if_neg c17, if_pos c20]
          have e0 : s_X7_tell_0_Z Z d p1 p2 = upd (upd Z 0 0) 10 (nI (kNoteD d)) := by rw [s_X7_tell_0_Z]; (try rw [hr3]); (try rw [hr16]); (try rw [hF19]); (try rw [hF25]); rw [if_neg c4, if_pos c5, if_neg c17, if_pos c20]
          have e1 : s_X7_tell_0_pg pg p1 p2 = F25 := by rw [s_X7_tell_0_pg]; (try rw [hr3]); (try rw [hr16]); (try rw [hF19]); (try rw [hF25]); rw [if_neg c4, if_pos c5, if_neg c17, if_pos c20]
          have e2 : s_X7_tell_0_bk d pg bk p1 p2 = F19 := by rw [s_X7_tell_0_bk]; (try rw [hr3]); (try rw [hr16]); (try rw [hF19]); (try rw [hF25]); rw [if_neg c4, if_pos c5, if_neg c17, if_pos c20]
          exact k_iret kx hK hP40 hD41 hS39 (u := (upd (upd Z 0 0) 10 (nI (kNoteD d)), F25, F19)) rfl ⟨er.symm, e0.symm, e1.symm, e2.symm⟩ dX7_tell_122
      · skip
        refine lv_bipush (v := (-2)) hx hb dX7_tell_49 (by decide) ?_
        have er : r_X7_tell_0 pg p1 p2 = (-2) := by rw [r_X7_tell_0]; (try rw [hr3]); (try rw [hr16]); rw [if_neg c4, if_pos c5, if_pos c17]
        have e0 : s_X7_tell_0_Z Z d p1 p2 = upd (upd Z 10 (nI d)) 0 0 := by rw [s_X7_tell_0_Z]; (try rw [hr3]); (try rw [hr16]); rw [if_neg c4, if_pos c5, if_pos c17]
        have e1 : s_X7_tell_0_pg pg p1 p2 = pg := by rw [s_X7_tell_0_pg]; (try rw [hr3]); (try rw [hr16]); rw [if_neg c4, if_pos c5, if_pos c17]
        have e2 : s_X7_tell_0_bk d pg bk p1 p2 = bk := by rw [s_X7_tell_0_bk]; (try rw [hr3]); (try rw [hr16]); rw [if_neg c4, if_pos c5, if_pos c17]
        exact k_iret kx hK hP27 hD28 hS26 (u := (upd (upd Z 10 (nI d)) 0 0, pg, bk)) rfl ⟨er.symm, e0.symm, e1.symm, e2.symm⟩ dX7_tell_51

set_option maxHeartbeats 4000000 in
set_option maxRecDepth 100000 in
theorem c_X7_demand_0 (l : Launch) (G : kG) (Z : Nat → Int32) (d : Nat) (sd : Int64) (h0 : Nat) (q1 : Nat) (q2 : Nat) (q3 : Nat) (q4 : Nat) (q5 : Nat) (q6 : Nat) (q7 : Nat) (q8 : Nat) (q9 : Nat) (q10 : Nat) (q11 : Nat) (pg : Nat → Int32) (bk : Nat → Int32) (hd : d ≤ 14) : cG l G yX7_demand cX7_demand 2 (some .int) 2 [.ref h0, .int 0] ([(h0, .inr (7, cM (upd Z 10 (nI d)) q1 q2 q3 q4 q5 q6 q7 q8 q9 q10 q11 sd)), (q4, .inl (G.2.1, 55, .inl pg)), (q6, .inl (G.2.1, 770, .inl bk))]) (qI G (fun (r : Int32) (_ : Unit) => r = (pg 7) ^^^ 1) (fun _ => [(h0, .inr (7, cM (upd (upd Z 0 0) 10 (nI (kNoteD d))) q1 q2 q3 q4 q5 q6 q7 q8 q9 q10 q11 sd)), (q4, .inl (G.2.1, 55, .inl (upd pg 7 ((pg 7) ^^^ 1)))), (q6, .inl (G.2.1, 770, .inl (kNoteB d bk pg)))])) := by
  refine kintro (by decide) (Nat.le_of_ble_eq_true rfl) ?_
  intro p e s m args below meth c A ls kx hK hP hD hS hA hl
  have kx : kX p s m args meth c cX7_demand 2 (some .int) RX7 := kx
  have hx := kx.1
  have hb := kx.2.1
  have hown := kx.2.2.2.2.1
  have ht := kx.2.2.2.2.2.2
  have hl : lv_has ls 2 [(0, .ref h0), (1, .int 0)] := hl
  refine lv_aload_n hx hb dX7_demand_0 rfl (lv_at hl 0 rfl) ?_
  refine lv_iconst (v := 0) hx hb dX7_demand_1 (by decide) ?_
  refine va_put (ci := 7) (v := .int 0) (ty := .int) (C := RX7) (T := TX7) (N := 22) hx hb ht inX7 tyX7 tyX7_ok nmX7 hown hK.1 hP hD hS 0 rfl rfl 0 (by decide) (ht _ q_666) (fun _ h9 => h9) rfl (by decide +kernel) rfl rfl (Nat.le_of_ble_eq_true rfl) dX7_demand_2 (fun H1 locs1 hP1 hD1 hS1 => ?_)
  have hP2 : va_P G.1 vwCl ([(h0, .inr (7, cM (upd (upd Z 10 (nI d)) 0 0) q1 q2 q3 q4 q5 q6 q7 q8 q9 q10 q11 sd)), (q4, .inl (G.2.1, 55, .inl pg)), (q6, .inl (G.2.1, 770, .inl bk))]) H1 := hP1
  have hD3 : va_D A ([(h0, .inr (7, cM (upd (upd Z 10 (nI d)) 0 0) q1 q2 q3 q4 q5 q6 q7 q8 q9 q10 q11 sd)), (q4, .inl (G.2.1, 55, .inl pg)), (q6, .inl (G.2.1, 770, .inl bk))]) := hD1
  refine lv_iload_n hx hb dX7_demand_5 rfl (lv_at hl 1 rfl) ?_
  refine k_calli (kRunS (As := [.int 0]) (rest := []) kx (c_X7_noEnd_0 l G ) q_824 q_822 q_36 q_823 nX7_noEnd ⟨Nat.le_of_ble_eq_true rfl, Nat.le_of_ble_eq_true rfl⟩ hK hP2 hD3 (kCtx_nil _) rfl hl.1 (Nat.le_of_ble_eq_true rfl) dX7_demand_6 ⟨Nat.zero_le _, Nat.zero_le _⟩) hP2 hD3 hS1 hA (kCtx_nil _) (fun _ => rfl) (fun r1 _ H4 locs4 hw hP4 hD4 hS4 => ?_)
  have hr1 : 0 = r1 := (show r1 = 0 from hw).symm
  subst hr1
  have hP5 : va_P G.1 vwCl ([(h0, .inr (7, cM (upd (upd Z 10 (nI d)) 0 0) q1 q2 q3 q4 q5 q6 q7 q8 q9 q10 q11 sd)), (q4, .inl (G.2.1, 55, .inl pg)), (q6, .inl (G.2.1, 770, .inl bk))]) H4 := hP4
  have hD6 : va_D A ([(h0, .inr (7, cM (upd (upd Z 10 (nI d)) 0 0) q1 q2 q3 q4 q5 q6 q7 q8 q9 q10 q11 sd)), (q4, .inl (G.2.1, 55, .inl pg)), (q6, .inl (G.2.1, 770, .inl bk))]) := hD4
  refine lv_if_eq (x := 0) (tgt := 14) hx hb dX7_demand_9 (by decide) (fun (c2 : 0 = 0) => ?_) (fun (c2 : ¬ (0 = 0)) => absurd (by decide) c2)
  refine lv_aload_n hx hb dX7_demand_14 rfl (lv_at hl 0 rfl) ?_
  refine k_callv (kRunV (As := []) (rest := []) kx (c_X7_note l G (upd (upd Z 10 (nI d)) 0 0) d sd h0 q1 q2 q3 q4 q5 q6 q7 q8 q9 q10 q11 pg bk (by omega)) q_855 q_852 q_36 q_854 q_24 nX7_note ⟨Nat.le_of_ble_eq_true rfl, Nat.le_of_ble_eq_true rfl⟩ hK hP5 hD6 (kCtx_all _) 0 7 rfl rfl rfl rfl hl.1 (Nat.le_of_ble_eq_true rfl) dX7_demand_15 ⟨Nat.zero_le _, Nat.zero_le _⟩) hP5 hD6 hS4 hA (kCtx_all _) (fun _ => rfl) (fun F4 H7 locs7 hw hP7 hD7 hS7 => ?_)
  have hF4 : kNoteB d bk pg = F4 := (show F4 = kNoteB d bk pg from hw).symm
  have hP8 : va_P G.1 vwCl ([(h0, .inr (7, cM (upd (upd Z 0 0) 10 (nI (kNoteD d))) q1 q2 q3 q4 q5 q6 q7 q8 q9 q10 q11 sd)), (q4, .inl (G.2.1, 55, .inl pg)), (q6, .inl (G.2.1, 770, .inl F4))]) H7 := hP7
  have hD9 : va_D A ([(h0, .inr (7, cM (upd (upd Z 0 0) 10 (nI (kNoteD d))) q1 q2 q3 q4 q5 q6 q7 q8 q9 q10 q11 sd)), (q4, .inl (G.2.1, 55, .inl pg)), (q6, .inl (G.2.1, 770, .inl F4))]) := hD7
  refine lv_aload_n hx hb dX7_demand_18 rfl (lv_at hl 0 rfl) ?_
  refine va_get (ci := 7) (v := .ref q4) (C := RX7) (T := TX7) (N := 22) hx hb ht inX7 hown hK.1 hP8 0 rfl rfl 7 (by decide) (ht _ q_673) (fun _ h9 => h9) rfl dX7_demand_19 ?_
  refine lv_bipush (v := 16) hx hb dX7_demand_22 (by decide) ?_
  refine lv_iload_n hx hb dX7_demand_24 rfl (lv_at hl 1 rfl) ?_
  refine lv_imul hx hb dX7_demand_25 ?_
  refine k_top (y := 0) (by decide +kernel) ?_
  refine lv_bipush (v := 7) hx hb dX7_demand_26 (by decide) ?_
  refine lv_iadd hx hb dX7_demand_28 ?_
  refine k_top (y := 7) (by decide +kernel) ?_
  refine lv_dup2_11 hx hb dX7_demand_29 rfl rfl ?_
  refine k_iald (v := (pg 7)) kx hK hP8 1 rfl 7 rfl (by decide) (by decide) rfl dX7_demand_30 ?_
  refine lv_iconst (v := 1) hx hb dX7_demand_31 (by decide) ?_
  refine lv_ixor hx hb dX7_demand_32 ?_
  refine k_iast kx hK hP8 hD9 hS7 1 rfl 7 rfl (by decide) (by decide) dX7_demand_33 (fun H10 locs10 hP10 hD10 hS10 => ?_)
  have hP11 : va_P G.1 vwCl ([(h0, .inr (7, cM (upd (upd Z 0 0) 10 (nI (kNoteD d))) q1 q2 q3 q4 q5 q6 q7 q8 q9 q10 q11 sd)), (q4, .inl (G.2.1, 55, .inl (upd pg 7 ((pg 7) ^^^ 1)))), (q6, .inl (G.2.1, 770, .inl F4))]) H10 := hP10
  have hD12 : va_D A ([(h0, .inr (7, cM (upd (upd Z 0 0) 10 (nI (kNoteD d))) q1 q2 q3 q4 q5 q6 q7 q8 q9 q10 q11 sd)), (q4, .inl (G.2.1, 55, .inl (upd pg 7 ((pg 7) ^^^ 1)))), (q6, .inl (G.2.1, 770, .inl F4))]) := hD10
  refine lv_aload_n hx hb dX7_demand_34 rfl (lv_at hl 0 rfl) ?_
  refine va_get (ci := 7) (v := .ref q4) (C := RX7) (T := TX7) (N := 22) hx hb ht inX7 hown hK.1 hP11 0 rfl rfl 7 (by decide) (ht _ q_673) (fun _ h9 => h9) rfl dX7_demand_35 ?_
  refine lv_bipush (v := 16) hx hb dX7_demand_38 (by decide) ?_
  refine lv_iload_n hx hb dX7_demand_40 rfl (lv_at hl 1 rfl) ?_
  refine lv_imul hx hb dX7_demand_41 ?_
  refine k_top (y := 0) (by decide +kernel) ?_
  refine lv_bipush (v := 7) hx hb dX7_demand_42 (by decide) ?_
  refine lv_iadd hx hb dX7_demand_44 ?_
  refine k_top (y := 7) (by decide +kernel) ?_
  refine k_iald (v := ((pg 7) ^^^ 1)) kx hK hP11 1 rfl 7 rfl (by decide) (by decide) rfl dX7_demand_45 ?_
  subst hF4
  exact k_iret kx hK hP11 hD12 hS10 (u := ()) rfl rfl dX7_demand_46

set_option maxHeartbeats 4000000 in
set_option maxRecDepth 100000 in
theorem c_X7_turn_0 (l : Launch) (G : kG) (Z : Nat → Int32) (d : Nat) (sd : Int64) (h0 : Nat) (q1 : Nat) (q2 : Nat) (q3 : Nat) (q4 : Nat) (q5 : Nat) (q6 : Nat) (q7 : Nat) (q8 : Nat) (q9 : Nat) (q10 : Nat) (q11 : Nat) (pg : Nat → Int32) (bk : Nat → Int32) (hd : d ≤ 14) : cG l G yX7_turn cX7_turn 2 (some .int) 2 [.ref h0, .int 0] ([(h0, .inr (7, cM (upd Z 10 (nI d)) q1 q2 q3 q4 q5 q6 q7 q8 q9 q10 q11 sd)), (q4, .inl (G.2.1, 55, .inl pg)), (q6, .inl (G.2.1, 770, .inl bk))]) (qI G (fun (r : Int32) (_ : Unit) => r = (pg 32) ^^^ 1) (fun _ => [(h0, .inr (7, cM (upd (upd Z 0 0) 10 (nI (kNoteD d))) q1 q2 q3 q4 q5 q6 q7 q8 q9 q10 q11 sd)), (q4, .inl (G.2.1, 55, .inl (upd pg 32 ((pg 32) ^^^ 1)))), (q6, .inl (G.2.1, 770, .inl (kNoteB d bk pg)))])) := by
  refine kintro (by decide) (Nat.le_of_ble_eq_true rfl) ?_
  intro p e s m args below meth c A ls kx hK hP hD hS hA hl
  have kx : kX p s m args meth c cX7_turn 2 (some .int) RX7 := kx
  have hx := kx.1
  have hb := kx.2.1
  have hown := kx.2.2.2.2.1
  have ht := kx.2.2.2.2.2.2
  have hl : lv_has ls 2 [(0, .ref h0), (1, .int 0)] := hl
  refine lv_aload_n hx hb dX7_turn_0 rfl (lv_at hl 0 rfl) ?_
  refine lv_iconst (v := 0) hx hb dX7_turn_1 (by decide) ?_
  refine va_put (ci := 7) (v := .int 0) (ty := .int) (C := RX7) (T := TX7) (N := 22) hx hb ht inX7 tyX7 tyX7_ok nmX7 hown hK.1 hP hD hS 0 rfl rfl 0 (by decide) (ht _ q_666) (fun _ h9 => h9) rfl (by decide +kernel) rfl rfl (Nat.le_of_ble_eq_true rfl) dX7_turn_2 (fun H1 locs1 hP1 hD1 hS1 => ?_)
  have hP2 : va_P G.1 vwCl ([(h0, .inr (7, cM (upd (upd Z 10 (nI d)) 0 0) q1 q2 q3 q4 q5 q6 q7 q8 q9 q10 q11 sd)), (q4, .inl (G.2.1, 55, .inl pg)), (q6, .inl (G.2.1, 770, .inl bk))]) H1 := hP1
  have hD3 : va_D A ([(h0, .inr (7, cM (upd (upd Z 10 (nI d)) 0 0) q1 q2 q3 q4 q5 q6 q7 q8 q9 q10 q11 sd)), (q4, .inl (G.2.1, 55, .inl pg)), (q6, .inl (G.2.1, 770, .inl bk))]) := hD1
  refine lv_iload_n hx hb dX7_turn_5 rfl (lv_at hl 1 rfl) ?_
  refine k_calli (kRunS (As := [.int 0]) (rest := []) kx (c_X7_noEnd_0 l G ) q_824 q_822 q_36 q_823 nX7_noEnd ⟨Nat.le_of_ble_eq_true rfl, Nat.le_of_ble_eq_true rfl⟩ hK hP2 hD3 (kCtx_nil _) rfl hl.1 (Nat.le_of_ble_eq_true rfl) dX7_turn_6 ⟨Nat.zero_le _, Nat.zero_le _⟩) hP2 hD3 hS1 hA (kCtx_nil _) (fun _ => rfl) (fun r1 _ H4 locs4 hw hP4 hD4 hS4 => ?_)
  have hr1 : 0 = r1 := (show r1 = 0 from hw).symm
  subst hr1
  have hP5 : va_P G.1 vwCl ([(h0, .inr (7, cM (upd (upd Z 10 (nI d)) 0 0) q1 q2 q3 q4 q5 q6 q7 q8 q9 q10 q11 sd)), (q4, .inl (G.2.1, 55, .inl pg)), (q6, .inl (G.2.1, 770, .inl bk))]) H4 := hP4
  have hD6 : va_D A ([(h0, .inr (7, cM (upd (upd Z 10 (nI d)) 0 0) q1 q2 q3 q4 q5 q6 q7 q8 q9 q10 q11 sd)), (q4, .inl (G.2.1, 55, .inl pg)), (q6, .inl (G.2.1, 770, .inl bk))]) := hD4
  refine lv_if_eq (x := 0) (tgt := 14) hx hb dX7_turn_9 (by decide) (fun (c2 : 0 = 0) => ?_) (fun (c2 : ¬ (0 = 0)) => absurd (by decide) c2)
  refine lv_aload_n hx hb dX7_turn_14 rfl (lv_at hl 0 rfl) ?_
  refine k_callv (kRunV (As := []) (rest := []) kx (c_X7_note l G (upd (upd Z 10 (nI d)) 0 0) d sd h0 q1 q2 q3 q4 q5 q6 q7 q8 q9 q10 q11 pg bk (by omega)) q_855 q_852 q_36 q_854 q_24 nX7_note ⟨Nat.le_of_ble_eq_true rfl, Nat.le_of_ble_eq_true rfl⟩ hK hP5 hD6 (kCtx_all _) 0 7 rfl rfl rfl rfl hl.1 (Nat.le_of_ble_eq_true rfl) dX7_turn_15 ⟨Nat.zero_le _, Nat.zero_le _⟩) hP5 hD6 hS4 hA (kCtx_all _) (fun _ => rfl) (fun F4 H7 locs7 hw hP7 hD7 hS7 => ?_)
  have hF4 : kNoteB d bk pg = F4 := (show F4 = kNoteB d bk pg from hw).symm
  have hP8 : va_P G.1 vwCl ([(h0, .inr (7, cM (upd (upd Z 0 0) 10 (nI (kNoteD d))) q1 q2 q3 q4 q5 q6 q7 q8 q9 q10 q11 sd)), (q4, .inl (G.2.1, 55, .inl pg)), (q6, .inl (G.2.1, 770, .inl F4))]) H7 := hP7
  have hD9 : va_D A ([(h0, .inr (7, cM (upd (upd Z 0 0) 10 (nI (kNoteD d))) q1 q2 q3 q4 q5 q6 q7 q8 q9 q10 q11 sd)), (q4, .inl (G.2.1, 55, .inl pg)), (q6, .inl (G.2.1, 770, .inl F4))]) := hD7
  refine lv_aload_n hx hb dX7_turn_18 rfl (lv_at hl 0 rfl) ?_
  refine va_get (ci := 7) (v := .ref q4) (C := RX7) (T := TX7) (N := 22) hx hb ht inX7 hown hK.1 hP8 0 rfl rfl 7 (by decide) (ht _ q_673) (fun _ h9 => h9) rfl dX7_turn_19 ?_
  refine lv_bipush (v := 32) hx hb dX7_turn_22 (by decide) ?_
  refine lv_iload_n hx hb dX7_turn_24 rfl (lv_at hl 1 rfl) ?_
  refine lv_iadd hx hb dX7_turn_25 ?_
  refine k_top (y := 32) (by decide +kernel) ?_
  refine lv_dup2_11 hx hb dX7_turn_26 rfl rfl ?_
  refine k_iald (v := (pg 32)) kx hK hP8 1 rfl 32 rfl (by decide) (by decide) rfl dX7_turn_27 ?_
  refine lv_iconst (v := 1) hx hb dX7_turn_28 (by decide) ?_
  refine lv_ixor hx hb dX7_turn_29 ?_
  refine k_iast kx hK hP8 hD9 hS7 1 rfl 32 rfl (by decide) (by decide) dX7_turn_30 (fun H10 locs10 hP10 hD10 hS10 => ?_)
  have hP11 : va_P G.1 vwCl ([(h0, .inr (7, cM (upd (upd Z 0 0) 10 (nI (kNoteD d))) q1 q2 q3 q4 q5 q6 q7 q8 q9 q10 q11 sd)), (q4, .inl (G.2.1, 55, .inl (upd pg 32 ((pg 32) ^^^ 1)))), (q6, .inl (G.2.1, 770, .inl F4))]) H10 := hP10
  have hD12 : va_D A ([(h0, .inr (7, cM (upd (upd Z 0 0) 10 (nI (kNoteD d))) q1 q2 q3 q4 q5 q6 q7 q8 q9 q10 q11 sd)), (q4, .inl (G.2.1, 55, .inl (upd pg 32 ((pg 32) ^^^ 1)))), (q6, .inl (G.2.1, 770, .inl F4))]) := hD10
  refine lv_aload_n hx hb dX7_turn_31 rfl (lv_at hl 0 rfl) ?_
  refine va_get (ci := 7) (v := .ref q4) (C := RX7) (T := TX7) (N := 22) hx hb ht inX7 hown hK.1 hP11 0 rfl rfl 7 (by decide) (ht _ q_673) (fun _ h9 => h9) rfl dX7_turn_32 ?_
  refine lv_bipush (v := 32) hx hb dX7_turn_35 (by decide) ?_
  refine lv_iload_n hx hb dX7_turn_37 rfl (lv_at hl 1 rfl) ?_
  refine lv_iadd hx hb dX7_turn_38 ?_
  refine k_top (y := 32) (by decide +kernel) ?_
  refine k_iald (v := ((pg 32) ^^^ 1)) kx hK hP11 1 rfl 32 rfl (by decide) (by decide) rfl dX7_turn_39 ?_
  subst hF4
  exact k_iret kx hK hP11 hD12 hS10 (u := ()) rfl rfl dX7_turn_40

def r_X7_poll_0 (pg : Nat → Int32) : Int32 := if (r_X7_mayPoll_0 pg) = 0 then (-3) else r_X7_limitOn_0 (upd (upd (upd pg 6 1) 8 0) 9 0)
def s_X7_poll_0_Z (Z : Nat → Int32) (d : Nat) (pg : Nat → Int32) : Nat → Int32 := if (r_X7_mayPoll_0 pg) = 0 then (upd (upd Z 10 (nI d)) 0 0) else upd (upd Z 0 0) 10 (nI (kNoteD d))
def s_X7_poll_0_pg (pg : Nat → Int32) : Nat → Int32 := if (r_X7_mayPoll_0 pg) = 0 then pg else upd (upd (upd pg 6 1) 8 0) 9 0
def s_X7_poll_0_bk (d : Nat) (pg : Nat → Int32) (bk : Nat → Int32) : Nat → Int32 := if (r_X7_mayPoll_0 pg) = 0 then bk else kNoteB d bk pg
set_option maxHeartbeats 4000000 in
set_option maxRecDepth 100000 in
theorem c_X7_poll_0 (l : Launch) (G : kG) (Z : Nat → Int32) (d : Nat) (sd : Int64) (h0 : Nat) (q1 : Nat) (q2 : Nat) (q3 : Nat) (q4 : Nat) (q5 : Nat) (q6 : Nat) (q7 : Nat) (q8 : Nat) (q9 : Nat) (q10 : Nat) (q11 : Nat) (pg : Nat → Int32) (bk : Nat → Int32) (hd : d ≤ 14) : cG l G yX7_poll cX7_poll 2 (some .int) 2 [.ref h0, .int 0] ([(h0, .inr (7, cM (upd Z 10 (nI d)) q1 q2 q3 q4 q5 q6 q7 q8 q9 q10 q11 sd)), (q4, .inl (G.2.1, 55, .inl pg)), (q6, .inl (G.2.1, 770, .inl bk))]) (qI G (fun (r : Int32) (u : ((Nat → Int32) × (Nat → Int32) × (Nat → Int32))) => r = r_X7_poll_0 pg ∧ u.1 = s_X7_poll_0_Z Z d pg ∧ u.2.1 = s_X7_poll_0_pg pg ∧ u.2.2 = s_X7_poll_0_bk d pg bk) (fun u => [(h0, .inr (7, cM u.1 q1 q2 q3 q4 q5 q6 q7 q8 q9 q10 q11 sd)), (q4, .inl (G.2.1, 55, .inl u.2.1)), (q6, .inl (G.2.1, 770, .inl u.2.2))])) := by
  refine kintro (by decide) (Nat.le_of_ble_eq_true rfl) ?_
  intro p e s m args below meth c A ls kx hK hP hD hS hA hl
  have kx : kX p s m args meth c cX7_poll 2 (some .int) RX7 := kx
  have hx := kx.1
  have hb := kx.2.1
  have hown := kx.2.2.2.2.1
  have ht := kx.2.2.2.2.2.2
  have hl : lv_has ls 2 [(0, .ref h0), (1, .int 0)] := hl
  refine lv_aload_n hx hb dX7_poll_0 rfl (lv_at hl 0 rfl) ?_
  refine lv_iconst (v := 0) hx hb dX7_poll_1 (by decide) ?_
  refine va_put (ci := 7) (v := .int 0) (ty := .int) (C := RX7) (T := TX7) (N := 22) hx hb ht inX7 tyX7 tyX7_ok nmX7 hown hK.1 hP hD hS 0 rfl rfl 0 (by decide) (ht _ q_666) (fun _ h9 => h9) rfl (by decide +kernel) rfl rfl (Nat.le_of_ble_eq_true rfl) dX7_poll_2 (fun H1 locs1 hP1 hD1 hS1 => ?_)
  have hP2 : va_P G.1 vwCl ([(h0, .inr (7, cM (upd (upd Z 10 (nI d)) 0 0) q1 q2 q3 q4 q5 q6 q7 q8 q9 q10 q11 sd)), (q4, .inl (G.2.1, 55, .inl pg)), (q6, .inl (G.2.1, 770, .inl bk))]) H1 := hP1
  have hD3 : va_D A ([(h0, .inr (7, cM (upd (upd Z 10 (nI d)) 0 0) q1 q2 q3 q4 q5 q6 q7 q8 q9 q10 q11 sd)), (q4, .inl (G.2.1, 55, .inl pg)), (q6, .inl (G.2.1, 770, .inl bk))]) := hD1
  refine lv_iload_n hx hb dX7_poll_5 rfl (lv_at hl 1 rfl) ?_
  refine k_calli (kRunS (As := [.int 0]) (rest := []) kx (c_X7_noEnd_0 l G ) q_824 q_822 q_36 q_823 nX7_noEnd ⟨Nat.le_of_ble_eq_true rfl, Nat.le_of_ble_eq_true rfl⟩ hK hP2 hD3 (kCtx_nil _) rfl hl.1 (Nat.le_of_ble_eq_true rfl) dX7_poll_6 ⟨Nat.zero_le _, Nat.zero_le _⟩) hP2 hD3 hS1 hA (kCtx_nil _) (fun _ => rfl) (fun r1 _ H4 locs4 hw hP4 hD4 hS4 => ?_)
  have hr1 : 0 = r1 := (show r1 = 0 from hw).symm
  subst hr1
  have hP5 : va_P G.1 vwCl ([(h0, .inr (7, cM (upd (upd Z 10 (nI d)) 0 0) q1 q2 q3 q4 q5 q6 q7 q8 q9 q10 q11 sd)), (q4, .inl (G.2.1, 55, .inl pg)), (q6, .inl (G.2.1, 770, .inl bk))]) H4 := hP4
  have hD6 : va_D A ([(h0, .inr (7, cM (upd (upd Z 10 (nI d)) 0 0) q1 q2 q3 q4 q5 q6 q7 q8 q9 q10 q11 sd)), (q4, .inl (G.2.1, 55, .inl pg)), (q6, .inl (G.2.1, 770, .inl bk))]) := hD4
  refine lv_if_eq (x := 0) (tgt := 14) hx hb dX7_poll_9 (by decide) (fun (c2 : 0 = 0) => ?_) (fun (c2 : ¬ (0 = 0)) => absurd (by decide) c2)
  refine lv_aload_n hx hb dX7_poll_14 rfl (lv_at hl 0 rfl) ?_
  refine va_get (ci := 7) (v := .ref q4) (C := RX7) (T := TX7) (N := 22) hx hb ht inX7 hown hK.1 hP5 0 rfl rfl 7 (by decide) (ht _ q_673) (fun _ h9 => h9) rfl dX7_poll_15 ?_
  refine lv_bipush (v := 16) hx hb dX7_poll_18 (by decide) ?_
  refine lv_iload_n hx hb dX7_poll_20 rfl (lv_at hl 1 rfl) ?_
  refine lv_imul hx hb dX7_poll_21 ?_
  refine k_top (y := 0) (by decide +kernel) ?_
  refine k_calli (kRunS (As := [.ref q4, .int 0]) (rest := []) kx (c_X7_mayPoll_0 l G pg q4) q_885 q_883 q_36 q_884 nX7_mayPoll ⟨Nat.le_of_ble_eq_true rfl, Nat.le_of_ble_eq_true rfl⟩ hK hP5 hD6 (kCtx_places _ _ [1] rfl rfl) rfl hl.1 (Nat.le_of_ble_eq_true rfl) dX7_poll_22 ⟨Nat.zero_le _, Nat.zero_le _⟩) hP5 hD6 hS4 hA (kCtx_places _ _ [1] rfl rfl) (fun _ => rfl) (fun r3 _ H7 locs7 hw hP7 hD7 hS7 => ?_)
  have hr3 : r_X7_mayPoll_0 pg = r3 := (show r3 = r_X7_mayPoll_0 pg from hw).symm
  have hP8 : va_P G.1 vwCl ([(h0, .inr (7, cM (upd (upd Z 10 (nI d)) 0 0) q1 q2 q3 q4 q5 q6 q7 q8 q9 q10 q11 sd)), (q4, .inl (G.2.1, 55, .inl pg)), (q6, .inl (G.2.1, 770, .inl bk))]) H7 := hP7
  have hD9 : va_D A ([(h0, .inr (7, cM (upd (upd Z 10 (nI d)) 0 0) q1 q2 q3 q4 q5 q6 q7 q8 q9 q10 q11 sd)), (q4, .inl (G.2.1, 55, .inl pg)), (q6, .inl (G.2.1, 770, .inl bk))]) := hD7
  refine lv_if_ne (x := r3) (tgt := 31) hx hb dX7_poll_25 (by decide) (fun (c4 : ¬ (r3 = 0)) => ?_) (fun (c4 : r3 = 0) => ?_)
  · skip
    refine lv_aload_n hx hb dX7_poll_31 rfl (lv_at hl 0 rfl) ?_
    refine k_callv (kRunV (As := []) (rest := []) kx (c_X7_note l G (upd (upd Z 10 (nI d)) 0 0) d sd h0 q1 q2 q3 q4 q5 q6 q7 q8 q9 q10 q11 pg bk (by omega)) q_855 q_852 q_36 q_854 q_24 nX7_note ⟨Nat.le_of_ble_eq_true rfl, Nat.le_of_ble_eq_true rfl⟩ hK hP8 hD9 (kCtx_all _) 0 7 rfl rfl rfl rfl hl.1 (Nat.le_of_ble_eq_true rfl) dX7_poll_32 ⟨Nat.zero_le _, Nat.zero_le _⟩) hP8 hD9 hS7 hA (kCtx_all _) (fun _ => rfl) (fun F6 H10 locs10 hw hP10 hD10 hS10 => ?_)
    have hF6 : kNoteB d bk pg = F6 := (show F6 = kNoteB d bk pg from hw).symm
    have hP11 : va_P G.1 vwCl ([(h0, .inr (7, cM (upd (upd Z 0 0) 10 (nI (kNoteD d))) q1 q2 q3 q4 q5 q6 q7 q8 q9 q10 q11 sd)), (q4, .inl (G.2.1, 55, .inl pg)), (q6, .inl (G.2.1, 770, .inl F6))]) H10 := hP10
    have hD12 : va_D A ([(h0, .inr (7, cM (upd (upd Z 0 0) 10 (nI (kNoteD d))) q1 q2 q3 q4 q5 q6 q7 q8 q9 q10 q11 sd)), (q4, .inl (G.2.1, 55, .inl pg)), (q6, .inl (G.2.1, 770, .inl F6))]) := hD10
    refine lv_aload_n hx hb dX7_poll_35 rfl (lv_at hl 0 rfl) ?_
    refine va_get (ci := 7) (v := .ref q4) (C := RX7) (T := TX7) (N := 22) hx hb ht inX7 hown hK.1 hP11 0 rfl rfl 7 (by decide) (ht _ q_673) (fun _ h9 => h9) rfl dX7_poll_36 ?_
    refine lv_bipush (v := 16) hx hb dX7_poll_39 (by decide) ?_
    refine lv_iload_n hx hb dX7_poll_41 rfl (lv_at hl 1 rfl) ?_
    refine lv_imul hx hb dX7_poll_42 ?_
    refine k_top (y := 0) (by decide +kernel) ?_
    refine k_callv (kRunS (As := [.ref q4, .int 0]) (rest := []) kx (c_X7_pollOn_0 l G pg q4) q_888 q_886 q_36 q_887 nX7_pollOn ⟨Nat.le_of_ble_eq_true rfl, Nat.le_of_ble_eq_true rfl⟩ hK hP11 hD12 (kCtx_places _ _ [1] rfl rfl) rfl hl.1 (Nat.le_of_ble_eq_true rfl) dX7_poll_43 ⟨Nat.zero_le _, Nat.zero_le _⟩) hP11 hD12 hS10 hA (kCtx_places _ _ [1] rfl rfl) (fun _ => rfl) (fun _ H13 locs13 hw hP13 hD13 hS13 => ?_)
    have hP14 : va_P G.1 vwCl ([(h0, .inr (7, cM (upd (upd Z 0 0) 10 (nI (kNoteD d))) q1 q2 q3 q4 q5 q6 q7 q8 q9 q10 q11 sd)), (q4, .inl (G.2.1, 55, .inl (upd (upd (upd pg 6 1) 8 0) 9 0))), (q6, .inl (G.2.1, 770, .inl F6))]) H13 := hP13
    have hD15 : va_D A ([(h0, .inr (7, cM (upd (upd Z 0 0) 10 (nI (kNoteD d))) q1 q2 q3 q4 q5 q6 q7 q8 q9 q10 q11 sd)), (q4, .inl (G.2.1, 55, .inl (upd (upd (upd pg 6 1) 8 0) 9 0))), (q6, .inl (G.2.1, 770, .inl F6))]) := hD13
    refine lv_aload_n hx hb dX7_poll_46 rfl (lv_at hl 0 rfl) ?_
    refine va_get (ci := 7) (v := .ref q4) (C := RX7) (T := TX7) (N := 22) hx hb ht inX7 hown hK.1 hP14 0 rfl rfl 7 (by decide) (ht _ q_673) (fun _ h9 => h9) rfl dX7_poll_47 ?_
    refine lv_bipush (v := 16) hx hb dX7_poll_50 (by decide) ?_
    refine lv_iload_n hx hb dX7_poll_52 rfl (lv_at hl 1 rfl) ?_
    refine lv_imul hx hb dX7_poll_53 ?_
    refine k_top (y := 0) (by decide +kernel) ?_
    refine k_calli (kRunS (As := [.ref q4, .int 0]) (rest := []) kx (c_X7_limitOn_0 l G (upd (upd (upd pg 6 1) 8 0) 9 0) q4) q_801 q_799 q_36 q_800 nX7_limitOn ⟨Nat.le_of_ble_eq_true rfl, Nat.le_of_ble_eq_true rfl⟩ hK hP14 hD15 (kCtx_places _ _ [1] rfl rfl) rfl hl.1 (Nat.le_of_ble_eq_true rfl) dX7_poll_54 ⟨Nat.zero_le _, Nat.zero_le _⟩) hP14 hD15 hS13 hA (kCtx_places _ _ [1] rfl rfl) (fun _ => rfl) (fun r8 _ H16 locs16 hw hP16 hD16 hS16 => ?_)
    have hr8 : r_X7_limitOn_0 (upd (upd (upd pg 6 1) 8 0) 9 0) = r8 := (show r8 = r_X7_limitOn_0 (upd (upd (upd pg 6 1) 8 0) 9 0) from hw).symm
    have hP17 : va_P G.1 vwCl ([(h0, .inr (7, cM (upd (upd Z 0 0) 10 (nI (kNoteD d))) q1 q2 q3 q4 q5 q6 q7 q8 q9 q10 q11 sd)), (q4, .inl (G.2.1, 55, .inl (upd (upd (upd pg 6 1) 8 0) 9 0))), (q6, .inl (G.2.1, 770, .inl F6))]) H16 := hP16
    have hD18 : va_D A ([(h0, .inr (7, cM (upd (upd Z 0 0) 10 (nI (kNoteD d))) q1 q2 q3 q4 q5 q6 q7 q8 q9 q10 q11 sd)), (q4, .inl (G.2.1, 55, .inl (upd (upd (upd pg 6 1) 8 0) 9 0))), (q6, .inl (G.2.1, 770, .inl F6))]) := hD16
    have er : r_X7_poll_0 pg = r8 := by rw [r_X7_poll_0]; (try rw [hr3]); (try rw [hF6]); (try rw [hr8]); rw [if_neg c4]
    have e0 : s_X7_poll_0_Z Z d pg = upd (upd Z 0 0) 10 (nI (kNoteD d)) := by rw [s_X7_poll_0_Z]; (try rw [hr3]); (try rw [hF6]); (try rw [hr8]); rw [if_neg c4]
    have e1 : s_X7_poll_0_pg pg = upd (upd (upd pg 6 1) 8 0) 9 0 := by rw [s_X7_poll_0_pg]; (try rw [hr3]); (try rw [hF6]); (try rw [hr8]); rw [if_neg c4]
    have e2 : s_X7_poll_0_bk d pg bk = F6 := by rw [s_X7_poll_0_bk]; (try rw [hr3]); (try rw [hF6]); (try rw [hr8]); rw [if_neg c4]
    exact k_iret kx hK hP17 hD18 hS16 (u := (upd (upd Z 0 0) 10 (nI (kNoteD d)), upd (upd (upd pg 6 1) 8 0) 9 0, F6)) rfl ⟨er.symm, e0.symm, e1.symm, e2.symm⟩ dX7_poll_57
  · skip
    refine lv_bipush (v := (-3)) hx hb dX7_poll_28 (by decide) ?_
    have er : r_X7_poll_0 pg = (-3) := by rw [r_X7_poll_0]; (try rw [hr3]); rw [if_pos c4]
    have e0 : s_X7_poll_0_Z Z d pg = upd (upd Z 10 (nI d)) 0 0 := by rw [s_X7_poll_0_Z]; (try rw [hr3]); rw [if_pos c4]
    have e1 : s_X7_poll_0_pg pg = pg := by rw [s_X7_poll_0_pg]; (try rw [hr3]); rw [if_pos c4]
    have e2 : s_X7_poll_0_bk d pg bk = bk := by rw [s_X7_poll_0_bk]; (try rw [hr3]); rw [if_pos c4]
    exact k_iret kx hK hP8 hD9 hS7 (u := (upd (upd Z 10 (nI d)) 0 0, pg, bk)) rfl ⟨er.symm, e0.symm, e1.symm, e2.symm⟩ dX7_poll_30

def r_X7_tell_1 (pg : Nat → Int32) (p1 : Int32) (p2 : Int32) : Int32 := if (r_X7_in p1.toInt64 0 2) = 0 then (-2) else if p1 = 2 then (if (r_X7_in p2.toInt64 1 5) = 0 then (-2) else if p1 = 0 then (pg (16 + p1.toNatClampNeg)) else if p1 = 1 then (pg (16 + p1.toNatClampNeg)) else pg (16 + p1.toNatClampNeg)) else if (r_X7_in p2.toInt64 1 9) = 0 then (-2) else if p1 = 0 then (pg (16 + p1.toNatClampNeg)) else if p1 = 1 then (pg (16 + p1.toNatClampNeg)) else pg (16 + p1.toNatClampNeg)
def s_X7_tell_1_Z (Z : Nat → Int32) (d : Nat) (p1 : Int32) (p2 : Int32) : Nat → Int32 := if (r_X7_in p1.toInt64 0 2) = 0 then (upd (upd Z 10 (nI d)) 0 0) else if p1 = 2 then (if (r_X7_in p2.toInt64 1 5) = 0 then (upd (upd Z 10 (nI d)) 0 0) else if p1 = 0 then (upd (upd Z 0 0) 10 (nI (kNoteD d))) else if p1 = 1 then (upd (upd Z 0 0) 10 (nI (kNoteD d))) else upd (upd Z 0 0) 10 (nI (kNoteD d))) else if (r_X7_in p2.toInt64 1 9) = 0 then (upd (upd Z 10 (nI d)) 0 0) else if p1 = 0 then (upd (upd Z 0 0) 10 (nI (kNoteD d))) else if p1 = 1 then (upd (upd Z 0 0) 10 (nI (kNoteD d))) else upd (upd Z 0 0) 10 (nI (kNoteD d))
def s_X7_tell_1_pg (pg : Nat → Int32) (p1 : Int32) (p2 : Int32) : Nat → Int32 := if (r_X7_in p1.toInt64 0 2) = 0 then pg else if p1 = 2 then (if (r_X7_in p2.toInt64 1 5) = 0 then pg else if p1 = 0 then (s_X7_setTx_16_f pg p2) else if p1 = 1 then (s_X7_setRx_16_f pg p2) else upd pg 18 p2) else if (r_X7_in p2.toInt64 1 9) = 0 then pg else if p1 = 0 then (s_X7_setTx_16_f pg p2) else if p1 = 1 then (s_X7_setRx_16_f pg p2) else upd pg 18 p2
def s_X7_tell_1_bk (d : Nat) (pg : Nat → Int32) (bk : Nat → Int32) (p1 : Int32) (p2 : Int32) : Nat → Int32 := if (r_X7_in p1.toInt64 0 2) = 0 then bk else if p1 = 2 then (if (r_X7_in p2.toInt64 1 5) = 0 then bk else if p1 = 0 then (kNoteB d bk pg) else if p1 = 1 then (kNoteB d bk pg) else kNoteB d bk pg) else if (r_X7_in p2.toInt64 1 9) = 0 then bk else if p1 = 0 then (kNoteB d bk pg) else if p1 = 1 then (kNoteB d bk pg) else kNoteB d bk pg
set_option maxHeartbeats 4000000 in
set_option maxRecDepth 100000 in
theorem c_X7_tell_1 (l : Launch) (G : kG) (Z : Nat → Int32) (d : Nat) (sd : Int64) (h0 : Nat) (q1 : Nat) (q2 : Nat) (q3 : Nat) (q4 : Nat) (q5 : Nat) (q6 : Nat) (q7 : Nat) (q8 : Nat) (q9 : Nat) (q10 : Nat) (q11 : Nat) (pg : Nat → Int32) (bk : Nat → Int32) (p1 : Int32) (p2 : Int32) (hd : d ≤ 14) : cG l G yX7_tell cX7_tell 5 (some .int) 2 [.ref h0, .int 1, .int p1, .int p2] ([(h0, .inr (7, cM (upd Z 10 (nI d)) q1 q2 q3 q4 q5 q6 q7 q8 q9 q10 q11 sd)), (q4, .inl (G.2.1, 55, .inl pg)), (q6, .inl (G.2.1, 770, .inl bk))]) (qI G (fun (r : Int32) (u : ((Nat → Int32) × (Nat → Int32) × (Nat → Int32))) => r = r_X7_tell_1 pg p1 p2 ∧ u.1 = s_X7_tell_1_Z Z d p1 p2 ∧ u.2.1 = s_X7_tell_1_pg pg p1 p2 ∧ u.2.2 = s_X7_tell_1_bk d pg bk p1 p2) (fun u => [(h0, .inr (7, cM u.1 q1 q2 q3 q4 q5 q6 q7 q8 q9 q10 q11 sd)), (q4, .inl (G.2.1, 55, .inl u.2.1)), (q6, .inl (G.2.1, 770, .inl u.2.2))])) := by
  refine kintro (by decide) (Nat.le_of_ble_eq_true rfl) ?_
  intro p e s m args below meth c A ls kx hK hP hD hS hA hl
  have kx : kX p s m args meth c cX7_tell 5 (some .int) RX7 := kx
  have hx := kx.1
  have hb := kx.2.1
  have hown := kx.2.2.2.2.1
  have ht := kx.2.2.2.2.2.2
  have hl : lv_has ls 5 [(0, .ref h0), (1, .int 1), (2, .int p1), (3, .int p2)] := hl
  refine lv_aload_n hx hb dX7_tell_0 rfl (lv_at hl 0 rfl) ?_
  refine lv_iconst (v := 0) hx hb dX7_tell_1 (by decide) ?_
  refine va_put (ci := 7) (v := .int 0) (ty := .int) (C := RX7) (T := TX7) (N := 22) hx hb ht inX7 tyX7 tyX7_ok nmX7 hown hK.1 hP hD hS 0 rfl rfl 0 (by decide) (ht _ q_666) (fun _ h9 => h9) rfl (by decide +kernel) rfl rfl (Nat.le_of_ble_eq_true rfl) dX7_tell_2 (fun H1 locs1 hP1 hD1 hS1 => ?_)
  have hP2 : va_P G.1 vwCl ([(h0, .inr (7, cM (upd (upd Z 10 (nI d)) 0 0) q1 q2 q3 q4 q5 q6 q7 q8 q9 q10 q11 sd)), (q4, .inl (G.2.1, 55, .inl pg)), (q6, .inl (G.2.1, 770, .inl bk))]) H1 := hP1
  have hD3 : va_D A ([(h0, .inr (7, cM (upd (upd Z 10 (nI d)) 0 0) q1 q2 q3 q4 q5 q6 q7 q8 q9 q10 q11 sd)), (q4, .inl (G.2.1, 55, .inl pg)), (q6, .inl (G.2.1, 770, .inl bk))]) := hD1
  refine lv_iload_n hx hb dX7_tell_5 rfl (lv_at hl 1 rfl) ?_
  refine k_calli (kRunS (As := [.int 1]) (rest := []) kx (c_X7_noEnd_1 l G ) q_824 q_822 q_36 q_823 nX7_noEnd ⟨Nat.le_of_ble_eq_true rfl, Nat.le_of_ble_eq_true rfl⟩ hK hP2 hD3 (kCtx_nil _) rfl hl.1 (Nat.le_of_ble_eq_true rfl) dX7_tell_6 ⟨Nat.zero_le _, Nat.zero_le _⟩) hP2 hD3 hS1 hA (kCtx_nil _) (fun _ => rfl) (fun r1 _ H4 locs4 hw hP4 hD4 hS4 => ?_)
  have hr1 : 0 = r1 := (show r1 = 0 from hw).symm
  subst hr1
  have hP5 : va_P G.1 vwCl ([(h0, .inr (7, cM (upd (upd Z 10 (nI d)) 0 0) q1 q2 q3 q4 q5 q6 q7 q8 q9 q10 q11 sd)), (q4, .inl (G.2.1, 55, .inl pg)), (q6, .inl (G.2.1, 770, .inl bk))]) H4 := hP4
  have hD6 : va_D A ([(h0, .inr (7, cM (upd (upd Z 10 (nI d)) 0 0) q1 q2 q3 q4 q5 q6 q7 q8 q9 q10 q11 sd)), (q4, .inl (G.2.1, 55, .inl pg)), (q6, .inl (G.2.1, 770, .inl bk))]) := hD4
  refine lv_if_eq (x := 0) (tgt := 14) hx hb dX7_tell_9 (by decide) (fun (c2 : 0 = 0) => ?_) (fun (c2 : ¬ (0 = 0)) => absurd (by decide) c2)
  refine lv_iload_n hx hb dX7_tell_14 rfl (lv_at hl 2 rfl) ?_
  refine lv_i2l (v := p1.toInt64) hx hb dX7_tell_15 rfl ?_
  refine lv_lconst (v := 0) hx hb dX7_tell_16 (by decide) ?_
  refine lv_ldc2 (v := 2) hx hb hown (ht _ q_860) dX7_tell_17 ?_
  refine k_calli (kRunS (As := [.long p1.toInt64, .long 0, .long 2]) (rest := []) kx (c_X7_in l G p1.toInt64 0 2) q_740 q_738 q_36 q_739 nX7_in ⟨Nat.le_of_ble_eq_true rfl, Nat.le_of_ble_eq_true rfl⟩ hK hP5 hD6 (kCtx_nil _) rfl hl.1 (Nat.le_of_ble_eq_true rfl) dX7_tell_20 ⟨Nat.zero_le _, Nat.zero_le _⟩) hP5 hD6 hS4 hA (kCtx_nil _) (fun _ => rfl) (fun r3 _ H7 locs7 hw hP7 hD7 hS7 => ?_)
  have hr3 : r_X7_in p1.toInt64 0 2 = r3 := (show r3 = r_X7_in p1.toInt64 0 2 from hw).symm
  have hP8 : va_P G.1 vwCl ([(h0, .inr (7, cM (upd (upd Z 10 (nI d)) 0 0) q1 q2 q3 q4 q5 q6 q7 q8 q9 q10 q11 sd)), (q4, .inl (G.2.1, 55, .inl pg)), (q6, .inl (G.2.1, 770, .inl bk))]) H7 := hP7
  have hD9 : va_D A ([(h0, .inr (7, cM (upd (upd Z 10 (nI d)) 0 0) q1 q2 q3 q4 q5 q6 q7 q8 q9 q10 q11 sd)), (q4, .inl (G.2.1, 55, .inl pg)), (q6, .inl (G.2.1, 770, .inl bk))]) := hD7
  refine lv_if_eq (x := r3) (tgt := 49) hx hb dX7_tell_23 (by decide) (fun (c4 : r3 = 0) => ?_) (fun (c4 : ¬ (r3 = 0)) => ?_)
  · skip
    refine lv_bipush (v := (-2)) hx hb dX7_tell_49 (by decide) ?_
    have er : r_X7_tell_1 pg p1 p2 = (-2) := by rw [r_X7_tell_1]; (try rw [hr3]); rw [if_pos c4]
    have e0 : s_X7_tell_1_Z Z d p1 p2 = upd (upd Z 10 (nI d)) 0 0 := by rw [s_X7_tell_1_Z]; (try rw [hr3]); rw [if_pos c4]
    have e1 : s_X7_tell_1_pg pg p1 p2 = pg := by rw [s_X7_tell_1_pg]; (try rw [hr3]); rw [if_pos c4]
    have e2 : s_X7_tell_1_bk d pg bk p1 p2 = bk := by rw [s_X7_tell_1_bk]; (try rw [hr3]); rw [if_pos c4]
    exact k_iret kx hK hP8 hD9 hS7 (u := (upd (upd Z 10 (nI d)) 0 0, pg, bk)) rfl ⟨er.symm, e0.symm, e1.symm, e2.symm⟩ dX7_tell_51
  · skip
    obtain ⟨nnc4, nmc4⟩ := kin_of (x := p1) (a := 0) (N := 2) (by rw [hr3]; exact c4) (by decide) (by decide)
    refine lv_iload_n hx hb dX7_tell_26 rfl (lv_at hl 3 rfl) ?_
    refine lv_i2l (v := p2.toInt64) hx hb dX7_tell_27 rfl ?_
    refine lv_lconst (v := 1) hx hb dX7_tell_28 (by decide) ?_
    refine lv_iload_n hx hb dX7_tell_29 rfl (lv_at hl 2 rfl) ?_
    refine lv_iconst (v := 2) hx hb dX7_tell_30 (by decide) ?_
    refine lv_icmp_ne (x := p1) (y := 2) (tgt := 40) hx hb dX7_tell_31 (by decide) (fun (c5 : ¬ (p1 = 2)) => ?_) (fun (c5 : p1 = 2) => ?_)
    · skip
      refine lv_ldc2 (v := 9) hx hb hown (ht _ q_825) dX7_tell_40 ?_
      refine k_calli (kRunS (As := [.long p2.toInt64, .long 1, .long 9]) (rest := []) kx (c_X7_in l G p2.toInt64 1 9) q_740 q_738 q_36 q_739 nX7_in ⟨Nat.le_of_ble_eq_true rfl, Nat.le_of_ble_eq_true rfl⟩ hK hP8 hD9 (kCtx_nil _) rfl hl.1 (Nat.le_of_ble_eq_true rfl) dX7_tell_43 ⟨Nat.zero_le _, Nat.zero_le _⟩) hP8 hD9 hS7 hA (kCtx_nil _) (fun _ => rfl) (fun r6 _ H10 locs10 hw hP10 hD10 hS10 => ?_)
      have hr6 : r_X7_in p2.toInt64 1 9 = r6 := (show r6 = r_X7_in p2.toInt64 1 9 from hw).symm
      have hP11 : va_P G.1 vwCl ([(h0, .inr (7, cM (upd (upd Z 10 (nI d)) 0 0) q1 q2 q3 q4 q5 q6 q7 q8 q9 q10 q11 sd)), (q4, .inl (G.2.1, 55, .inl pg)), (q6, .inl (G.2.1, 770, .inl bk))]) H10 := hP10
      have hD12 : va_D A ([(h0, .inr (7, cM (upd (upd Z 10 (nI d)) 0 0) q1 q2 q3 q4 q5 q6 q7 q8 q9 q10 q11 sd)), (q4, .inl (G.2.1, 55, .inl pg)), (q6, .inl (G.2.1, 770, .inl bk))]) := hD10
      refine lv_if_ne (x := r6) (tgt := 52) hx hb dX7_tell_46 (by decide) (fun (c7 : ¬ (r6 = 0)) => ?_) (fun (c7 : r6 = 0) => ?_)
      · skip
        obtain ⟨nnc7, nmc7⟩ := kin_of (x := p2) (a := 1) (N := 9) (by rw [hr6]; exact c7) (by decide) (by decide)
        refine lv_aload_n hx hb dX7_tell_52 rfl (lv_at hl 0 rfl) ?_
        refine k_callv (kRunV (As := []) (rest := []) kx (c_X7_note l G (upd (upd Z 10 (nI d)) 0 0) d sd h0 q1 q2 q3 q4 q5 q6 q7 q8 q9 q10 q11 pg bk (by omega)) q_855 q_852 q_36 q_854 q_24 nX7_note ⟨Nat.le_of_ble_eq_true rfl, Nat.le_of_ble_eq_true rfl⟩ hK hP11 hD12 (kCtx_all _) 0 7 rfl rfl rfl rfl hl.1 (Nat.le_of_ble_eq_true rfl) dX7_tell_53 ⟨Nat.zero_le _, Nat.zero_le _⟩) hP11 hD12 hS10 hA (kCtx_all _) (fun _ => rfl) (fun F9 H13 locs13 hw hP13 hD13 hS13 => ?_)
        have hF9 : kNoteB d bk pg = F9 := (show F9 = kNoteB d bk pg from hw).symm
        have hP14 : va_P G.1 vwCl ([(h0, .inr (7, cM (upd (upd Z 0 0) 10 (nI (kNoteD d))) q1 q2 q3 q4 q5 q6 q7 q8 q9 q10 q11 sd)), (q4, .inl (G.2.1, 55, .inl pg)), (q6, .inl (G.2.1, 770, .inl F9))]) H13 := hP13
        have hD15 : va_D A ([(h0, .inr (7, cM (upd (upd Z 0 0) 10 (nI (kNoteD d))) q1 q2 q3 q4 q5 q6 q7 q8 q9 q10 q11 sd)), (q4, .inl (G.2.1, 55, .inl pg)), (q6, .inl (G.2.1, 770, .inl F9))]) := hD13
        refine lv_aload_n hx hb dX7_tell_56 rfl (lv_at hl 0 rfl) ?_
        refine va_get (ci := 7) (v := .ref q4) (C := RX7) (T := TX7) (N := 22) hx hb ht inX7 hown hK.1 hP14 0 rfl rfl 7 (by decide) (ht _ q_673) (fun _ h9 => h9) rfl dX7_tell_57 ?_
        refine lv_bipush (v := 16) hx hb dX7_tell_60 (by decide) ?_
        refine lv_iload_n hx hb dX7_tell_62 rfl (lv_at hl 1 rfl) ?_
        refine lv_imul hx hb dX7_tell_63 ?_
        refine k_top (y := 16) (by decide +kernel) ?_
        refine lv_iload_n hx hb dX7_tell_64 rfl (lv_at hl 2 rfl) ?_
        refine lv_iadd hx hb dX7_tell_65 ?_
        refine k_iald (v := (pg (16 + p1.toNatClampNeg))) kx hK hP14 1 rfl (16 + p1.toNatClampNeg) (kadd rfl nnc4) (by omega) (by decide) rfl dX7_tell_66 ?_
        refine lv_istore (lv' := [(4, .int (pg (16 + p1.toNatClampNeg))), (0, .ref h0), (1, .int 1), (2, .int p1), (3, .int p2)]) hx hb dX7_tell_67 hl (by decide) rfl (fun ls16 hl16 => ?_)
        refine lv_iload_n hx hb dX7_tell_69 rfl (lv_at hl16 3 rfl) ?_
        refine lv_if_ne (x := p1) (tgt := 88) hx hb dX7_tell_70 (by decide) (fun (c10 : ¬ (p1 = 0)) => ?_) (fun (c10 : p1 = 0) => ?_)
        · skip
          refine lv_iload_n hx hb dX7_tell_88 rfl (lv_at hl16 3 rfl) ?_
          refine lv_iconst (v := 1) hx hb dX7_tell_89 (by decide) ?_
          refine lv_icmp_ne (x := p1) (y := 1) (tgt := 108) hx hb dX7_tell_90 (by decide) (fun (c11 : ¬ (p1 = 1)) => ?_) (fun (c11 : p1 = 1) => ?_)
          · skip
            refine lv_aload_n hx hb dX7_tell_108 rfl (lv_at hl16 1 rfl) ?_
            refine va_get (ci := 7) (v := .ref q4) (C := RX7) (T := TX7) (N := 22) hx hb ht inX7 hown hK.1 hP14 0 rfl rfl 7 (by decide) (ht _ q_673) (fun _ h9 => h9) rfl dX7_tell_109 ?_
            refine lv_bipush (v := 16) hx hb dX7_tell_112 (by decide) ?_
            refine lv_iload_n hx hb dX7_tell_114 rfl (lv_at hl16 2 rfl) ?_
            refine lv_imul hx hb dX7_tell_115 ?_
            refine k_top (y := 16) (by decide +kernel) ?_
            refine lv_iconst (v := 2) hx hb dX7_tell_116 (by decide) ?_
            refine lv_iadd hx hb dX7_tell_117 ?_
            refine k_top (y := 18) (by decide +kernel) ?_
            refine lv_iload_n hx hb dX7_tell_118 rfl (lv_at hl16 4 rfl) ?_
            refine k_iast kx hK hP14 hD15 hS13 1 rfl 18 rfl (by decide) (by decide) dX7_tell_119 (fun H17 locs17 hP17 hD17 hS17 => ?_)
            have hP18 : va_P G.1 vwCl ([(h0, .inr (7, cM (upd (upd Z 0 0) 10 (nI (kNoteD d))) q1 q2 q3 q4 q5 q6 q7 q8 q9 q10 q11 sd)), (q4, .inl (G.2.1, 55, .inl (upd pg 18 p2))), (q6, .inl (G.2.1, 770, .inl F9))]) H17 := hP17
            have hD19 : va_D A ([(h0, .inr (7, cM (upd (upd Z 0 0) 10 (nI (kNoteD d))) q1 q2 q3 q4 q5 q6 q7 q8 q9 q10 q11 sd)), (q4, .inl (G.2.1, 55, .inl (upd pg 18 p2))), (q6, .inl (G.2.1, 770, .inl F9))]) := hD17
            refine lv_iload hx hb dX7_tell_120 (lv_at hl16 0 rfl) ?_
            have er : r_X7_tell_1 pg p1 p2 = pg (16 + p1.toNatClampNeg) := by rw [r_X7_tell_1]; (try rw [hr3]); (try rw [hr6]); (try rw [hF9]); rw [if_neg c4, if_neg c5, if_neg c7, if_neg c10, if_neg c11]
            have e0 : s_X7_tell_1_Z Z d p1 p2 = upd (upd Z 0 0) 10 (nI (kNoteD d)) := by rw [s_X7_tell_1_Z]; (try rw [hr3]); (try rw [hr6]); (try rw [hF9]); rw [if_neg c4, if_neg c5, if_neg c7, if_neg c10, if_neg c11]
            have e1 : s_X7_tell_1_pg pg p1 p2 = upd pg 18 p2 := by rw [s_X7_tell_1_pg]; (try rw [hr3]); (try rw [hr6]); (try rw [hF9]); rw [if_neg c4, if_neg c5, if_neg c7, if_neg c10, if_neg c11]
            have e2 : s_X7_tell_1_bk d pg bk p1 p2 = F9 := by rw [s_X7_tell_1_bk]; (try rw [hr3]); (try rw [hr6]); (try rw [hF9]); rw [if_neg c4, if_neg c5, if_neg c7, if_neg c10, if_neg c11]
            exact k_iret kx hK hP18 hD19 hS17 (u := (upd (upd Z 0 0) 10 (nI (kNoteD d)), upd pg 18 p2, F9)) rfl ⟨er.symm, e0.symm, e1.symm, e2.symm⟩ dX7_tell_122
          · skip
            refine lv_aload_n hx hb dX7_tell_93 rfl (lv_at hl16 1 rfl) ?_
            refine va_get (ci := 7) (v := .ref q4) (C := RX7) (T := TX7) (N := 22) hx hb ht inX7 hown hK.1 hP14 0 rfl rfl 7 (by decide) (ht _ q_673) (fun _ h9 => h9) rfl dX7_tell_94 ?_
            refine lv_bipush (v := 16) hx hb dX7_tell_97 (by decide) ?_
            refine lv_iload_n hx hb dX7_tell_99 rfl (lv_at hl16 2 rfl) ?_
            refine lv_imul hx hb dX7_tell_100 ?_
            refine k_top (y := 16) (by decide +kernel) ?_
            refine lv_iload_n hx hb dX7_tell_101 rfl (lv_at hl16 4 rfl) ?_
            refine k_callv (kRunS (As := [.ref q4, .int 16, .int p2]) (rest := []) kx (c_X7_setRx_16 l G pg q4 p2) q_870 q_868 q_36 q_869 nX7_setRx ⟨Nat.le_of_ble_eq_true rfl, Nat.le_of_ble_eq_true rfl⟩ hK hP14 hD15 (kCtx_places _ _ [1] rfl rfl) rfl hl16.1 (Nat.le_of_ble_eq_true rfl) dX7_tell_102 ⟨Nat.zero_le _, Nat.zero_le _⟩) hP14 hD15 hS13 hA (kCtx_places _ _ [1] rfl rfl) (fun _ => rfl) (fun F13 H20 locs20 hw hP20 hD20 hS20 => ?_)
            have hF13 : s_X7_setRx_16_f pg p2 = F13 := (show F13 = s_X7_setRx_16_f pg p2 from hw).symm
            have hP21 : va_P G.1 vwCl ([(h0, .inr (7, cM (upd (upd Z 0 0) 10 (nI (kNoteD d))) q1 q2 q3 q4 q5 q6 q7 q8 q9 q10 q11 sd)), (q4, .inl (G.2.1, 55, .inl F13)), (q6, .inl (G.2.1, 770, .inl F9))]) H20 := hP20
            have hD22 : va_D A ([(h0, .inr (7, cM (upd (upd Z 0 0) 10 (nI (kNoteD d))) q1 q2 q3 q4 q5 q6 q7 q8 q9 q10 q11 sd)), (q4, .inl (G.2.1, 55, .inl F13)), (q6, .inl (G.2.1, 770, .inl F9))]) := hD20
            refine lv_goto (tgt := 120) hx hb dX7_tell_105 (by decide) ?_
            refine lv_iload hx hb dX7_tell_120 (lv_at hl16 0 rfl) ?_
            have er : r_X7_tell_1 pg p1 p2 = pg (16 + p1.toNatClampNeg) := by rw [r_X7_tell_1]; (try rw [hr3]); (try rw [hr6]); (try rw [hF9]); (try rw [hF13]); rw [if_neg c4, if_neg c5, if_neg c7, if_neg c10, if_pos c11]
            have e0 : s_X7_tell_1_Z Z d p1 p2 = upd (upd Z 0 0) 10 (nI (kNoteD d)) := by rw [s_X7_tell_1_Z]; (try rw [hr3]); (try rw [hr6]); (try rw [hF9]); (try rw [hF13]); rw [if_neg c4, if_neg c5, if_neg c7, if_neg c10, if_pos c11]
            have e1 : s_X7_tell_1_pg pg p1 p2 = F13 := by rw [s_X7_tell_1_pg]; (try rw [hr3]); (try rw [hr6]); (try rw [hF9]); (try rw [hF13]); rw [if_neg c4, if_neg c5, if_neg c7, if_neg c10, if_pos c11]
            have e2 : s_X7_tell_1_bk d pg bk p1 p2 = F9 := by rw [s_X7_tell_1_bk]; (try rw [hr3]); (try rw [hr6]); (try rw [hF9]); (try rw [hF13]); rw [if_neg c4, if_neg c5, if_neg c7, if_neg c10, if_pos c11]
            exact k_iret kx hK hP21 hD22 hS20 (u := (upd (upd Z 0 0) 10 (nI (kNoteD d)), F13, F9)) rfl ⟨er.symm, e0.symm, e1.symm, e2.symm⟩ dX7_tell_122
        · skip
          refine lv_aload_n hx hb dX7_tell_73 rfl (lv_at hl16 1 rfl) ?_
          refine va_get (ci := 7) (v := .ref q4) (C := RX7) (T := TX7) (N := 22) hx hb ht inX7 hown hK.1 hP14 0 rfl rfl 7 (by decide) (ht _ q_673) (fun _ h9 => h9) rfl dX7_tell_74 ?_
          refine lv_bipush (v := 16) hx hb dX7_tell_77 (by decide) ?_
          refine lv_iload_n hx hb dX7_tell_79 rfl (lv_at hl16 2 rfl) ?_
          refine lv_imul hx hb dX7_tell_80 ?_
          refine k_top (y := 16) (by decide +kernel) ?_
          refine lv_iload_n hx hb dX7_tell_81 rfl (lv_at hl16 4 rfl) ?_
          refine k_callv (kRunS (As := [.ref q4, .int 16, .int p2]) (rest := []) kx (c_X7_setTx_16 l G pg q4 p2) q_864 q_862 q_36 q_863 nX7_setTx ⟨Nat.le_of_ble_eq_true rfl, Nat.le_of_ble_eq_true rfl⟩ hK hP14 hD15 (kCtx_places _ _ [1] rfl rfl) rfl hl16.1 (Nat.le_of_ble_eq_true rfl) dX7_tell_82 ⟨Nat.zero_le _, Nat.zero_le _⟩) hP14 hD15 hS13 hA (kCtx_places _ _ [1] rfl rfl) (fun _ => rfl) (fun F15 H23 locs23 hw hP23 hD23 hS23 => ?_)
          have hF15 : s_X7_setTx_16_f pg p2 = F15 := (show F15 = s_X7_setTx_16_f pg p2 from hw).symm
          have hP24 : va_P G.1 vwCl ([(h0, .inr (7, cM (upd (upd Z 0 0) 10 (nI (kNoteD d))) q1 q2 q3 q4 q5 q6 q7 q8 q9 q10 q11 sd)), (q4, .inl (G.2.1, 55, .inl F15)), (q6, .inl (G.2.1, 770, .inl F9))]) H23 := hP23
          have hD25 : va_D A ([(h0, .inr (7, cM (upd (upd Z 0 0) 10 (nI (kNoteD d))) q1 q2 q3 q4 q5 q6 q7 q8 q9 q10 q11 sd)), (q4, .inl (G.2.1, 55, .inl F15)), (q6, .inl (G.2.1, 770, .inl F9))]) := hD23
          refine lv_goto (tgt := 120) hx hb dX7_tell_85 (by decide) ?_
          refine lv_iload hx hb dX7_tell_120 (lv_at hl16 0 rfl) ?_
          have er : r_X7_tell_1 pg p1 p2 = pg (16 + p1.toNatClampNeg) := by rw [r_X7_tell_1]; (try rw [hr3]); (try rw [hr6]); (try rw [hF9]); (try rw [hF15]); rw [if_neg c4, if_neg c5, if_neg c7, if_pos c10]
          have e0 : s_X7_tell_1_Z Z d p1 p2 = upd (upd Z 0 0) 10 (nI (kNoteD d)) := by rw [s_X7_tell_1_Z]; (try rw [hr3]); (try rw [hr6]); (try rw [hF9]); (try rw [hF15]); rw [if_neg c4, if_neg c5, if_neg c7, if_pos c10]
          have e1 : s_X7_tell_1_pg pg p1 p2 = F15 := by rw [s_X7_tell_1_pg]; (try rw [hr3]); (try rw [hr6]); (try rw [hF9]); (try rw [hF15]); rw [if_neg c4, if_neg c5, if_neg c7, if_pos c10]
          have e2 : s_X7_tell_1_bk d pg bk p1 p2 = F9 := by rw [s_X7_tell_1_bk]; (try rw [hr3]); (try rw [hr6]); (try rw [hF9]); (try rw [hF15]); rw [if_neg c4, if_neg c5, if_neg c7, if_pos c10]
          exact k_iret kx hK hP24 hD25 hS23 (u := (upd (upd Z 0 0) 10 (nI (kNoteD d)), F15, F9)) rfl ⟨er.symm, e0.symm, e1.symm, e2.symm⟩ dX7_tell_122
      · skip
        refine lv_bipush (v := (-2)) hx hb dX7_tell_49 (by decide) ?_
        have er : r_X7_tell_1 pg p1 p2 = (-2) := by rw [r_X7_tell_1]; (try rw [hr3]); (try rw [hr6]); rw [if_neg c4, if_neg c5, if_pos c7]
        have e0 : s_X7_tell_1_Z Z d p1 p2 = upd (upd Z 10 (nI d)) 0 0 := by rw [s_X7_tell_1_Z]; (try rw [hr3]); (try rw [hr6]); rw [if_neg c4, if_neg c5, if_pos c7]
        have e1 : s_X7_tell_1_pg pg p1 p2 = pg := by rw [s_X7_tell_1_pg]; (try rw [hr3]); (try rw [hr6]); rw [if_neg c4, if_neg c5, if_pos c7]
        have e2 : s_X7_tell_1_bk d pg bk p1 p2 = bk := by rw [s_X7_tell_1_bk]; (try rw [hr3]); (try rw [hr6]); rw [if_neg c4, if_neg c5, if_pos c7]
        exact k_iret kx hK hP11 hD12 hS10 (u := (upd (upd Z 10 (nI d)) 0 0, pg, bk)) rfl ⟨er.symm, e0.symm, e1.symm, e2.symm⟩ dX7_tell_51
    · skip
      refine lv_ldc2 (v := 5) hx hb hown (ht _ q_861) dX7_tell_34 ?_
      refine lv_goto (tgt := 43) hx hb dX7_tell_37 (by decide) ?_
      refine k_calli (kRunS (As := [.long p2.toInt64, .long 1, .long 5]) (rest := []) kx (c_X7_in l G p2.toInt64 1 5) q_740 q_738 q_36 q_739 nX7_in ⟨Nat.le_of_ble_eq_true rfl, Nat.le_of_ble_eq_true rfl⟩ hK hP8 hD9 (kCtx_nil _) rfl hl.1 (Nat.le_of_ble_eq_true rfl) dX7_tell_43 ⟨Nat.zero_le _, Nat.zero_le _⟩) hP8 hD9 hS7 hA (kCtx_nil _) (fun _ => rfl) (fun r16 _ H26 locs26 hw hP26 hD26 hS26 => ?_)
      have hr16 : r_X7_in p2.toInt64 1 5 = r16 := (show r16 = r_X7_in p2.toInt64 1 5 from hw).symm
      have hP27 : va_P G.1 vwCl ([(h0, .inr (7, cM (upd (upd Z 10 (nI d)) 0 0) q1 q2 q3 q4 q5 q6 q7 q8 q9 q10 q11 sd)), (q4, .inl (G.2.1, 55, .inl pg)), (q6, .inl (G.2.1, 770, .inl bk))]) H26 := hP26
      have hD28 : va_D A ([(h0, .inr (7, cM (upd (upd Z 10 (nI d)) 0 0) q1 q2 q3 q4 q5 q6 q7 q8 q9 q10 q11 sd)), (q4, .inl (G.2.1, 55, .inl pg)), (q6, .inl (G.2.1, 770, .inl bk))]) := hD26
      refine lv_if_ne (x := r16) (tgt := 52) hx hb dX7_tell_46 (by decide) (fun (c17 : ¬ (r16 = 0)) => ?_) (fun (c17 : r16 = 0) => ?_)
      · skip
        obtain ⟨nnc17, nmc17⟩ := kin_of (x := p2) (a := 1) (N := 5) (by rw [hr16]; exact c17) (by decide) (by decide)
        refine lv_aload_n hx hb dX7_tell_52 rfl (lv_at hl 0 rfl) ?_
        refine k_callv (kRunV (As := []) (rest := []) kx (c_X7_note l G (upd (upd Z 10 (nI d)) 0 0) d sd h0 q1 q2 q3 q4 q5 q6 q7 q8 q9 q10 q11 pg bk (by omega)) q_855 q_852 q_36 q_854 q_24 nX7_note ⟨Nat.le_of_ble_eq_true rfl, Nat.le_of_ble_eq_true rfl⟩ hK hP27 hD28 (kCtx_all _) 0 7 rfl rfl rfl rfl hl.1 (Nat.le_of_ble_eq_true rfl) dX7_tell_53 ⟨Nat.zero_le _, Nat.zero_le _⟩) hP27 hD28 hS26 hA (kCtx_all _) (fun _ => rfl) (fun F19 H29 locs29 hw hP29 hD29 hS29 => ?_)
        have hF19 : kNoteB d bk pg = F19 := (show F19 = kNoteB d bk pg from hw).symm
        have hP30 : va_P G.1 vwCl ([(h0, .inr (7, cM (upd (upd Z 0 0) 10 (nI (kNoteD d))) q1 q2 q3 q4 q5 q6 q7 q8 q9 q10 q11 sd)), (q4, .inl (G.2.1, 55, .inl pg)), (q6, .inl (G.2.1, 770, .inl F19))]) H29 := hP29
        have hD31 : va_D A ([(h0, .inr (7, cM (upd (upd Z 0 0) 10 (nI (kNoteD d))) q1 q2 q3 q4 q5 q6 q7 q8 q9 q10 q11 sd)), (q4, .inl (G.2.1, 55, .inl pg)), (q6, .inl (G.2.1, 770, .inl F19))]) := hD29
        refine lv_aload_n hx hb dX7_tell_56 rfl (lv_at hl 0 rfl) ?_
        refine va_get (ci := 7) (v := .ref q4) (C := RX7) (T := TX7) (N := 22) hx hb ht inX7 hown hK.1 hP30 0 rfl rfl 7 (by decide) (ht _ q_673) (fun _ h9 => h9) rfl dX7_tell_57 ?_
        refine lv_bipush (v := 16) hx hb dX7_tell_60 (by decide) ?_
        refine lv_iload_n hx hb dX7_tell_62 rfl (lv_at hl 1 rfl) ?_
        refine lv_imul hx hb dX7_tell_63 ?_
        refine k_top (y := 16) (by decide +kernel) ?_
        refine lv_iload_n hx hb dX7_tell_64 rfl (lv_at hl 2 rfl) ?_
        refine lv_iadd hx hb dX7_tell_65 ?_
        refine k_iald (v := (pg (16 + p1.toNatClampNeg))) kx hK hP30 1 rfl (16 + p1.toNatClampNeg) (kadd rfl nnc4) (by omega) (by decide) rfl dX7_tell_66 ?_
        refine lv_istore (lv' := [(4, .int (pg (16 + p1.toNatClampNeg))), (0, .ref h0), (1, .int 1), (2, .int p1), (3, .int p2)]) hx hb dX7_tell_67 hl (by decide) rfl (fun ls32 hl32 => ?_)
        refine lv_iload_n hx hb dX7_tell_69 rfl (lv_at hl32 3 rfl) ?_
        refine lv_if_ne (x := p1) (tgt := 88) hx hb dX7_tell_70 (by decide) (fun (c20 : ¬ (p1 = 0)) => ?_) (fun (c20 : p1 = 0) => ?_)
        · skip
          refine lv_iload_n hx hb dX7_tell_88 rfl (lv_at hl32 3 rfl) ?_
          refine lv_iconst (v := 1) hx hb dX7_tell_89 (by decide) ?_
          refine lv_icmp_ne (x := p1) (y := 1) (tgt := 108) hx hb dX7_tell_90 (by decide) (fun (c21 : ¬ (p1 = 1)) => ?_) (fun (c21 : p1 = 1) => ?_)
          · skip
            refine lv_aload_n hx hb dX7_tell_108 rfl (lv_at hl32 1 rfl) ?_
            refine va_get (ci := 7) (v := .ref q4) (C := RX7) (T := TX7) (N := 22) hx hb ht inX7 hown hK.1 hP30 0 rfl rfl 7 (by decide) (ht _ q_673) (fun _ h9 => h9) rfl dX7_tell_109 ?_
            refine lv_bipush (v := 16) hx hb dX7_tell_112 (by decide) ?_
            refine lv_iload_n hx hb dX7_tell_114 rfl (lv_at hl32 2 rfl) ?_
            refine lv_imul hx hb dX7_tell_115 ?_
            refine k_top (y := 16) (by decide +kernel) ?_
            refine lv_iconst (v := 2) hx hb dX7_tell_116 (by decide) ?_
            refine lv_iadd hx hb dX7_tell_117 ?_
            refine k_top (y := 18) (by decide +kernel) ?_
            refine lv_iload_n hx hb dX7_tell_118 rfl (lv_at hl32 4 rfl) ?_
            refine k_iast kx hK hP30 hD31 hS29 1 rfl 18 rfl (by decide) (by decide) dX7_tell_119 (fun H33 locs33 hP33 hD33 hS33 => ?_)
            have hP34 : va_P G.1 vwCl ([(h0, .inr (7, cM (upd (upd Z 0 0) 10 (nI (kNoteD d))) q1 q2 q3 q4 q5 q6 q7 q8 q9 q10 q11 sd)), (q4, .inl (G.2.1, 55, .inl (upd pg 18 p2))), (q6, .inl (G.2.1, 770, .inl F19))]) H33 := hP33
            have hD35 : va_D A ([(h0, .inr (7, cM (upd (upd Z 0 0) 10 (nI (kNoteD d))) q1 q2 q3 q4 q5 q6 q7 q8 q9 q10 q11 sd)), (q4, .inl (G.2.1, 55, .inl (upd pg 18 p2))), (q6, .inl (G.2.1, 770, .inl F19))]) := hD33
            refine lv_iload hx hb dX7_tell_120 (lv_at hl32 0 rfl) ?_
            have er : r_X7_tell_1 pg p1 p2 = pg (16 + p1.toNatClampNeg) := by rw [r_X7_tell_1]; (try rw [hr3]); (try rw [hr16]); (try rw [hF19]); rw [if_neg c4, if_pos c5, if_neg c17, if_neg c20, if_neg c21]
            have e0 : s_X7_tell_1_Z Z d p1 p2 = upd (upd Z 0 0) 10 (nI (kNoteD d)) := by rw [s_X7_tell_1_Z]; (try rw [hr3]); (try rw [hr16]); (try rw [hF19]); rw [if_neg c4, if_pos c5, if_neg c17, if_neg c20, if_neg c21]
            have e1 : s_X7_tell_1_pg pg p1 p2 = upd pg 18 p2 := by rw [s_X7_tell_1_pg]; (try rw [hr3]); (try rw [hr16]); (try rw [hF19]); rw [if_neg c4, if_pos c5, if_neg c17, if_neg c20, if_neg c21]
            have e2 : s_X7_tell_1_bk d pg bk p1 p2 = F19 := by rw [s_X7_tell_1_bk]; (try rw [hr3]); (try rw [hr16]); (try rw [hF19]); rw [if_neg c4, if_pos c5, if_neg c17, if_neg c20, if_neg c21]
            exact k_iret kx hK hP34 hD35 hS33 (u := (upd (upd Z 0 0) 10 (nI (kNoteD d)), upd pg 18 p2, F19)) rfl ⟨er.symm, e0.symm, e1.symm, e2.symm⟩ dX7_tell_122
          · skip
            refine lv_aload_n hx hb dX7_tell_93 rfl (lv_at hl32 1 rfl) ?_
            refine va_get (ci := 7) (v := .ref q4) (C := RX7) (T := TX7) (N := 22) hx hb ht inX7 hown hK.1 hP30 0 rfl rfl 7 (by decide) (ht _ q_673) (fun _ h9 => h9) rfl dX7_tell_94 ?_
            refine lv_bipush (v := 16) hx hb dX7_tell_97 (by decide) ?_
            refine lv_iload_n hx hb dX7_tell_99 rfl (lv_at hl32 2 rfl) ?_
            refine lv_imul hx hb dX7_tell_100 ?_
            refine k_top (y := 16) (by decide +kernel) ?_
            refine lv_iload_n hx hb dX7_tell_101 rfl (lv_at hl32 4 rfl) ?_
            refine k_callv (kRunS (As := [.ref q4, .int 16, .int p2]) (rest := []) kx (c_X7_setRx_16 l G pg q4 p2) q_870 q_868 q_36 q_869 nX7_setRx ⟨Nat.le_of_ble_eq_true rfl, Nat.le_of_ble_eq_true rfl⟩ hK hP30 hD31 (kCtx_places _ _ [1] rfl rfl) rfl hl32.1 (Nat.le_of_ble_eq_true rfl) dX7_tell_102 ⟨Nat.zero_le _, Nat.zero_le _⟩) hP30 hD31 hS29 hA (kCtx_places _ _ [1] rfl rfl) (fun _ => rfl) (fun F23 H36 locs36 hw hP36 hD36 hS36 => ?_)
            have hF23 : s_X7_setRx_16_f pg p2 = F23 := (show F23 = s_X7_setRx_16_f pg p2 from hw).symm
            have hP37 : va_P G.1 vwCl ([(h0, .inr (7, cM (upd (upd Z 0 0) 10 (nI (kNoteD d))) q1 q2 q3 q4 q5 q6 q7 q8 q9 q10 q11 sd)), (q4, .inl (G.2.1, 55, .inl F23)), (q6, .inl (G.2.1, 770, .inl F19))]) H36 := hP36
            have hD38 : va_D A ([(h0, .inr (7, cM (upd (upd Z 0 0) 10 (nI (kNoteD d))) q1 q2 q3 q4 q5 q6 q7 q8 q9 q10 q11 sd)), (q4, .inl (G.2.1, 55, .inl F23)), (q6, .inl (G.2.1, 770, .inl F19))]) := hD36
            refine lv_goto (tgt := 120) hx hb dX7_tell_105 (by decide) ?_
            refine lv_iload hx hb dX7_tell_120 (lv_at hl32 0 rfl) ?_
            have er : r_X7_tell_1 pg p1 p2 = pg (16 + p1.toNatClampNeg) := by rw [r_X7_tell_1]; (try rw [hr3]); (try rw [hr16]); (try rw [hF19]); (try rw [hF23]); rw [if_neg c4, if_pos c5, if_neg c17, if_neg c20, if_pos c21]
            have e0 : s_X7_tell_1_Z Z d p1 p2 = upd (upd Z 0 0) 10 (nI (kNoteD d)) := by rw [s_X7_tell_1_Z]; (try rw [hr3]); (try rw [hr16]); (try rw [hF19]); (try rw [hF23]); rw [if_neg c4, if_pos c5, if_neg c17, if_neg c20, if_pos c21]
            have e1 : s_X7_tell_1_pg pg p1 p2 = F23 := by rw [s_X7_tell_1_pg]; (try rw [hr3]); (try rw [hr16]); (try rw [hF19]); (try rw [hF23]); rw [if_neg c4, if_pos c5, if_neg c17, if_neg c20, if_pos c21]
            have e2 : s_X7_tell_1_bk d pg bk p1 p2 = F19 := by rw [s_X7_tell_1_bk]; (try rw [hr3]); (try rw [hr16]); (try rw [hF19]); (try rw [hF23]); rw [if_neg c4, if_pos c5, if_neg c17, if_neg c20, if_pos c21]
            exact k_iret kx hK hP37 hD38 hS36 (u := (upd (upd Z 0 0) 10 (nI (kNoteD d)), F23, F19)) rfl ⟨er.symm, e0.symm, e1.symm, e2.symm⟩ dX7_tell_122
        · skip
          refine lv_aload_n hx hb dX7_tell_73 rfl (lv_at hl32 1 rfl) ?_
          refine va_get (ci := 7) (v := .ref q4) (C := RX7) (T := TX7) (N := 22) hx hb ht inX7 hown hK.1 hP30 0 rfl rfl 7 (by decide) (ht _ q_673) (fun _ h9 => h9) rfl dX7_tell_74 ?_
          refine lv_bipush (v := 16) hx hb dX7_tell_77 (by decide) ?_
          refine lv_iload_n hx hb dX7_tell_79 rfl (lv_at hl32 2 rfl) ?_
          refine lv_imul hx hb dX7_tell_80 ?_
          refine k_top (y := 16) (by decide +kernel) ?_
          refine lv_iload_n hx hb dX7_tell_81 rfl (lv_at hl32 4 rfl) ?_
          refine k_callv (kRunS (As := [.ref q4, .int 16, .int p2]) (rest := []) kx (c_X7_setTx_16 l G pg q4 p2) q_864 q_862 q_36 q_863 nX7_setTx ⟨Nat.le_of_ble_eq_true rfl, Nat.le_of_ble_eq_true rfl⟩ hK hP30 hD31 (kCtx_places _ _ [1] rfl rfl) rfl hl32.1 (Nat.le_of_ble_eq_true rfl) dX7_tell_82 ⟨Nat.zero_le _, Nat.zero_le _⟩) hP30 hD31 hS29 hA (kCtx_places _ _ [1] rfl rfl) (fun _ => rfl) (fun F25 H39 locs39 hw hP39 hD39 hS39 => ?_)
          have hF25 : s_X7_setTx_16_f pg p2 = F25 := (show F25 = s_X7_setTx_16_f pg p2 from hw).symm
          have hP40 : va_P G.1 vwCl ([(h0, .inr (7, cM (upd (upd Z 0 0) 10 (nI (kNoteD d))) q1 q2 q3 q4 q5 q6 q7 q8 q9 q10 q11 sd)), (q4, .inl (G.2.1, 55, .inl F25)), (q6, .inl (G.2.1, 770, .inl F19))]) H39 := hP39
          have hD41 : va_D A ([(h0, .inr (7, cM (upd (upd Z 0 0) 10 (nI (kNoteD d))) q1 q2 q3 q4 q5 q6 q7 q8 q9 q10 q11 sd)), (q4, .inl (G.2.1, 55, .inl F25)), (q6, .inl (G.2.1, 770, .inl F19))]) := hD39
          refine lv_goto (tgt := 120) hx hb dX7_tell_85 (by decide) ?_
          refine lv_iload hx hb dX7_tell_120 (lv_at hl32 0 rfl) ?_
          have er : r_X7_tell_1 pg p1 p2 = pg (16 + p1.toNatClampNeg) := by rw [r_X7_tell_1]; (try rw [hr3]); (try rw [hr16]); (try rw [hF19]); (try rw [hF25]); rw [if_neg c4, if_pos c5, if_neg c17, if_pos c20]
          have e0 : s_X7_tell_1_Z Z d p1 p2 = upd (upd Z 0 0) 10 (nI (kNoteD d)) := by rw [s_X7_tell_1_Z]; (try rw [hr3]); (try rw [hr16]); (try rw [hF19]); (try rw [hF25]); rw [if_neg c4, if_pos c5, if_neg c17, if_pos c20]
          have e1 : s_X7_tell_1_pg pg p1 p2 = F25 := by rw [s_X7_tell_1_pg]; (try rw [hr3]); (try rw [hr16]); (try rw [hF19]); (try rw [hF25]); rw [if_neg c4, if_pos c5, if_neg c17, if_pos c20]
          have e2 : s_X7_tell_1_bk d pg bk p1 p2 = F19 := by rw [s_X7_tell_1_bk]; (try rw [hr3]); (try rw [hr16]); (try rw [hF19]); (try rw [hF25]); rw [if_neg c4, if_pos c5, if_neg c17, if_pos c20]
          exact k_iret kx hK hP40 hD41 hS39 (u := (upd (upd Z 0 0) 10 (nI (kNoteD d)), F25, F19)) rfl ⟨er.symm, e0.symm, e1.symm, e2.symm⟩ dX7_tell_122
      · skip
        refine lv_bipush (v := (-2)) hx hb dX7_tell_49 (by decide) ?_
        have er : r_X7_tell_1 pg p1 p2 = (-2) := by rw [r_X7_tell_1]; (try rw [hr3]); (try rw [hr16]); rw [if_neg c4, if_pos c5, if_pos c17]
        have e0 : s_X7_tell_1_Z Z d p1 p2 = upd (upd Z 10 (nI d)) 0 0 := by rw [s_X7_tell_1_Z]; (try rw [hr3]); (try rw [hr16]); rw [if_neg c4, if_pos c5, if_pos c17]
        have e1 : s_X7_tell_1_pg pg p1 p2 = pg := by rw [s_X7_tell_1_pg]; (try rw [hr3]); (try rw [hr16]); rw [if_neg c4, if_pos c5, if_pos c17]
        have e2 : s_X7_tell_1_bk d pg bk p1 p2 = bk := by rw [s_X7_tell_1_bk]; (try rw [hr3]); (try rw [hr16]); rw [if_neg c4, if_pos c5, if_pos c17]
        exact k_iret kx hK hP27 hD28 hS26 (u := (upd (upd Z 10 (nI d)) 0 0, pg, bk)) rfl ⟨er.symm, e0.symm, e1.symm, e2.symm⟩ dX7_tell_51

set_option maxHeartbeats 4000000 in
set_option maxRecDepth 100000 in
theorem c_X7_demand_1 (l : Launch) (G : kG) (Z : Nat → Int32) (d : Nat) (sd : Int64) (h0 : Nat) (q1 : Nat) (q2 : Nat) (q3 : Nat) (q4 : Nat) (q5 : Nat) (q6 : Nat) (q7 : Nat) (q8 : Nat) (q9 : Nat) (q10 : Nat) (q11 : Nat) (pg : Nat → Int32) (bk : Nat → Int32) (hd : d ≤ 14) : cG l G yX7_demand cX7_demand 2 (some .int) 2 [.ref h0, .int 1] ([(h0, .inr (7, cM (upd Z 10 (nI d)) q1 q2 q3 q4 q5 q6 q7 q8 q9 q10 q11 sd)), (q4, .inl (G.2.1, 55, .inl pg)), (q6, .inl (G.2.1, 770, .inl bk))]) (qI G (fun (r : Int32) (_ : Unit) => r = (pg 23) ^^^ 1) (fun _ => [(h0, .inr (7, cM (upd (upd Z 0 0) 10 (nI (kNoteD d))) q1 q2 q3 q4 q5 q6 q7 q8 q9 q10 q11 sd)), (q4, .inl (G.2.1, 55, .inl (upd pg 23 ((pg 23) ^^^ 1)))), (q6, .inl (G.2.1, 770, .inl (kNoteB d bk pg)))])) := by
  refine kintro (by decide) (Nat.le_of_ble_eq_true rfl) ?_
  intro p e s m args below meth c A ls kx hK hP hD hS hA hl
  have kx : kX p s m args meth c cX7_demand 2 (some .int) RX7 := kx
  have hx := kx.1
  have hb := kx.2.1
  have hown := kx.2.2.2.2.1
  have ht := kx.2.2.2.2.2.2
  have hl : lv_has ls 2 [(0, .ref h0), (1, .int 1)] := hl
  refine lv_aload_n hx hb dX7_demand_0 rfl (lv_at hl 0 rfl) ?_
  refine lv_iconst (v := 0) hx hb dX7_demand_1 (by decide) ?_
  refine va_put (ci := 7) (v := .int 0) (ty := .int) (C := RX7) (T := TX7) (N := 22) hx hb ht inX7 tyX7 tyX7_ok nmX7 hown hK.1 hP hD hS 0 rfl rfl 0 (by decide) (ht _ q_666) (fun _ h9 => h9) rfl (by decide +kernel) rfl rfl (Nat.le_of_ble_eq_true rfl) dX7_demand_2 (fun H1 locs1 hP1 hD1 hS1 => ?_)
  have hP2 : va_P G.1 vwCl ([(h0, .inr (7, cM (upd (upd Z 10 (nI d)) 0 0) q1 q2 q3 q4 q5 q6 q7 q8 q9 q10 q11 sd)), (q4, .inl (G.2.1, 55, .inl pg)), (q6, .inl (G.2.1, 770, .inl bk))]) H1 := hP1
  have hD3 : va_D A ([(h0, .inr (7, cM (upd (upd Z 10 (nI d)) 0 0) q1 q2 q3 q4 q5 q6 q7 q8 q9 q10 q11 sd)), (q4, .inl (G.2.1, 55, .inl pg)), (q6, .inl (G.2.1, 770, .inl bk))]) := hD1
  refine lv_iload_n hx hb dX7_demand_5 rfl (lv_at hl 1 rfl) ?_
  refine k_calli (kRunS (As := [.int 1]) (rest := []) kx (c_X7_noEnd_1 l G ) q_824 q_822 q_36 q_823 nX7_noEnd ⟨Nat.le_of_ble_eq_true rfl, Nat.le_of_ble_eq_true rfl⟩ hK hP2 hD3 (kCtx_nil _) rfl hl.1 (Nat.le_of_ble_eq_true rfl) dX7_demand_6 ⟨Nat.zero_le _, Nat.zero_le _⟩) hP2 hD3 hS1 hA (kCtx_nil _) (fun _ => rfl) (fun r1 _ H4 locs4 hw hP4 hD4 hS4 => ?_)
  have hr1 : 0 = r1 := (show r1 = 0 from hw).symm
  subst hr1
  have hP5 : va_P G.1 vwCl ([(h0, .inr (7, cM (upd (upd Z 10 (nI d)) 0 0) q1 q2 q3 q4 q5 q6 q7 q8 q9 q10 q11 sd)), (q4, .inl (G.2.1, 55, .inl pg)), (q6, .inl (G.2.1, 770, .inl bk))]) H4 := hP4
  have hD6 : va_D A ([(h0, .inr (7, cM (upd (upd Z 10 (nI d)) 0 0) q1 q2 q3 q4 q5 q6 q7 q8 q9 q10 q11 sd)), (q4, .inl (G.2.1, 55, .inl pg)), (q6, .inl (G.2.1, 770, .inl bk))]) := hD4
  refine lv_if_eq (x := 0) (tgt := 14) hx hb dX7_demand_9 (by decide) (fun (c2 : 0 = 0) => ?_) (fun (c2 : ¬ (0 = 0)) => absurd (by decide) c2)
  refine lv_aload_n hx hb dX7_demand_14 rfl (lv_at hl 0 rfl) ?_
  refine k_callv (kRunV (As := []) (rest := []) kx (c_X7_note l G (upd (upd Z 10 (nI d)) 0 0) d sd h0 q1 q2 q3 q4 q5 q6 q7 q8 q9 q10 q11 pg bk (by omega)) q_855 q_852 q_36 q_854 q_24 nX7_note ⟨Nat.le_of_ble_eq_true rfl, Nat.le_of_ble_eq_true rfl⟩ hK hP5 hD6 (kCtx_all _) 0 7 rfl rfl rfl rfl hl.1 (Nat.le_of_ble_eq_true rfl) dX7_demand_15 ⟨Nat.zero_le _, Nat.zero_le _⟩) hP5 hD6 hS4 hA (kCtx_all _) (fun _ => rfl) (fun F4 H7 locs7 hw hP7 hD7 hS7 => ?_)
  have hF4 : kNoteB d bk pg = F4 := (show F4 = kNoteB d bk pg from hw).symm
  have hP8 : va_P G.1 vwCl ([(h0, .inr (7, cM (upd (upd Z 0 0) 10 (nI (kNoteD d))) q1 q2 q3 q4 q5 q6 q7 q8 q9 q10 q11 sd)), (q4, .inl (G.2.1, 55, .inl pg)), (q6, .inl (G.2.1, 770, .inl F4))]) H7 := hP7
  have hD9 : va_D A ([(h0, .inr (7, cM (upd (upd Z 0 0) 10 (nI (kNoteD d))) q1 q2 q3 q4 q5 q6 q7 q8 q9 q10 q11 sd)), (q4, .inl (G.2.1, 55, .inl pg)), (q6, .inl (G.2.1, 770, .inl F4))]) := hD7
  refine lv_aload_n hx hb dX7_demand_18 rfl (lv_at hl 0 rfl) ?_
  refine va_get (ci := 7) (v := .ref q4) (C := RX7) (T := TX7) (N := 22) hx hb ht inX7 hown hK.1 hP8 0 rfl rfl 7 (by decide) (ht _ q_673) (fun _ h9 => h9) rfl dX7_demand_19 ?_
  refine lv_bipush (v := 16) hx hb dX7_demand_22 (by decide) ?_
  refine lv_iload_n hx hb dX7_demand_24 rfl (lv_at hl 1 rfl) ?_
  refine lv_imul hx hb dX7_demand_25 ?_
  refine k_top (y := 16) (by decide +kernel) ?_
  refine lv_bipush (v := 7) hx hb dX7_demand_26 (by decide) ?_
  refine lv_iadd hx hb dX7_demand_28 ?_
  refine k_top (y := 23) (by decide +kernel) ?_
  refine lv_dup2_11 hx hb dX7_demand_29 rfl rfl ?_
  refine k_iald (v := (pg 23)) kx hK hP8 1 rfl 23 rfl (by decide) (by decide) rfl dX7_demand_30 ?_
  refine lv_iconst (v := 1) hx hb dX7_demand_31 (by decide) ?_
  refine lv_ixor hx hb dX7_demand_32 ?_
  refine k_iast kx hK hP8 hD9 hS7 1 rfl 23 rfl (by decide) (by decide) dX7_demand_33 (fun H10 locs10 hP10 hD10 hS10 => ?_)
  have hP11 : va_P G.1 vwCl ([(h0, .inr (7, cM (upd (upd Z 0 0) 10 (nI (kNoteD d))) q1 q2 q3 q4 q5 q6 q7 q8 q9 q10 q11 sd)), (q4, .inl (G.2.1, 55, .inl (upd pg 23 ((pg 23) ^^^ 1)))), (q6, .inl (G.2.1, 770, .inl F4))]) H10 := hP10
  have hD12 : va_D A ([(h0, .inr (7, cM (upd (upd Z 0 0) 10 (nI (kNoteD d))) q1 q2 q3 q4 q5 q6 q7 q8 q9 q10 q11 sd)), (q4, .inl (G.2.1, 55, .inl (upd pg 23 ((pg 23) ^^^ 1)))), (q6, .inl (G.2.1, 770, .inl F4))]) := hD10
  refine lv_aload_n hx hb dX7_demand_34 rfl (lv_at hl 0 rfl) ?_
  refine va_get (ci := 7) (v := .ref q4) (C := RX7) (T := TX7) (N := 22) hx hb ht inX7 hown hK.1 hP11 0 rfl rfl 7 (by decide) (ht _ q_673) (fun _ h9 => h9) rfl dX7_demand_35 ?_
  refine lv_bipush (v := 16) hx hb dX7_demand_38 (by decide) ?_
  refine lv_iload_n hx hb dX7_demand_40 rfl (lv_at hl 1 rfl) ?_
  refine lv_imul hx hb dX7_demand_41 ?_
  refine k_top (y := 16) (by decide +kernel) ?_
  refine lv_bipush (v := 7) hx hb dX7_demand_42 (by decide) ?_
  refine lv_iadd hx hb dX7_demand_44 ?_
  refine k_top (y := 23) (by decide +kernel) ?_
  refine k_iald (v := ((pg 23) ^^^ 1)) kx hK hP11 1 rfl 23 rfl (by decide) (by decide) rfl dX7_demand_45 ?_
  subst hF4
  exact k_iret kx hK hP11 hD12 hS10 (u := ()) rfl rfl dX7_demand_46

set_option maxHeartbeats 4000000 in
set_option maxRecDepth 100000 in
theorem c_X7_turn_1 (l : Launch) (G : kG) (Z : Nat → Int32) (d : Nat) (sd : Int64) (h0 : Nat) (q1 : Nat) (q2 : Nat) (q3 : Nat) (q4 : Nat) (q5 : Nat) (q6 : Nat) (q7 : Nat) (q8 : Nat) (q9 : Nat) (q10 : Nat) (q11 : Nat) (pg : Nat → Int32) (bk : Nat → Int32) (hd : d ≤ 14) : cG l G yX7_turn cX7_turn 2 (some .int) 2 [.ref h0, .int 1] ([(h0, .inr (7, cM (upd Z 10 (nI d)) q1 q2 q3 q4 q5 q6 q7 q8 q9 q10 q11 sd)), (q4, .inl (G.2.1, 55, .inl pg)), (q6, .inl (G.2.1, 770, .inl bk))]) (qI G (fun (r : Int32) (_ : Unit) => r = (pg 33) ^^^ 1) (fun _ => [(h0, .inr (7, cM (upd (upd Z 0 0) 10 (nI (kNoteD d))) q1 q2 q3 q4 q5 q6 q7 q8 q9 q10 q11 sd)), (q4, .inl (G.2.1, 55, .inl (upd pg 33 ((pg 33) ^^^ 1)))), (q6, .inl (G.2.1, 770, .inl (kNoteB d bk pg)))])) := by
  refine kintro (by decide) (Nat.le_of_ble_eq_true rfl) ?_
  intro p e s m args below meth c A ls kx hK hP hD hS hA hl
  have kx : kX p s m args meth c cX7_turn 2 (some .int) RX7 := kx
  have hx := kx.1
  have hb := kx.2.1
  have hown := kx.2.2.2.2.1
  have ht := kx.2.2.2.2.2.2
  have hl : lv_has ls 2 [(0, .ref h0), (1, .int 1)] := hl
  refine lv_aload_n hx hb dX7_turn_0 rfl (lv_at hl 0 rfl) ?_
  refine lv_iconst (v := 0) hx hb dX7_turn_1 (by decide) ?_
  refine va_put (ci := 7) (v := .int 0) (ty := .int) (C := RX7) (T := TX7) (N := 22) hx hb ht inX7 tyX7 tyX7_ok nmX7 hown hK.1 hP hD hS 0 rfl rfl 0 (by decide) (ht _ q_666) (fun _ h9 => h9) rfl (by decide +kernel) rfl rfl (Nat.le_of_ble_eq_true rfl) dX7_turn_2 (fun H1 locs1 hP1 hD1 hS1 => ?_)
  have hP2 : va_P G.1 vwCl ([(h0, .inr (7, cM (upd (upd Z 10 (nI d)) 0 0) q1 q2 q3 q4 q5 q6 q7 q8 q9 q10 q11 sd)), (q4, .inl (G.2.1, 55, .inl pg)), (q6, .inl (G.2.1, 770, .inl bk))]) H1 := hP1
  have hD3 : va_D A ([(h0, .inr (7, cM (upd (upd Z 10 (nI d)) 0 0) q1 q2 q3 q4 q5 q6 q7 q8 q9 q10 q11 sd)), (q4, .inl (G.2.1, 55, .inl pg)), (q6, .inl (G.2.1, 770, .inl bk))]) := hD1
  refine lv_iload_n hx hb dX7_turn_5 rfl (lv_at hl 1 rfl) ?_
  refine k_calli (kRunS (As := [.int 1]) (rest := []) kx (c_X7_noEnd_1 l G ) q_824 q_822 q_36 q_823 nX7_noEnd ⟨Nat.le_of_ble_eq_true rfl, Nat.le_of_ble_eq_true rfl⟩ hK hP2 hD3 (kCtx_nil _) rfl hl.1 (Nat.le_of_ble_eq_true rfl) dX7_turn_6 ⟨Nat.zero_le _, Nat.zero_le _⟩) hP2 hD3 hS1 hA (kCtx_nil _) (fun _ => rfl) (fun r1 _ H4 locs4 hw hP4 hD4 hS4 => ?_)
  have hr1 : 0 = r1 := (show r1 = 0 from hw).symm
  subst hr1
  have hP5 : va_P G.1 vwCl ([(h0, .inr (7, cM (upd (upd Z 10 (nI d)) 0 0) q1 q2 q3 q4 q5 q6 q7 q8 q9 q10 q11 sd)), (q4, .inl (G.2.1, 55, .inl pg)), (q6, .inl (G.2.1, 770, .inl bk))]) H4 := hP4
  have hD6 : va_D A ([(h0, .inr (7, cM (upd (upd Z 10 (nI d)) 0 0) q1 q2 q3 q4 q5 q6 q7 q8 q9 q10 q11 sd)), (q4, .inl (G.2.1, 55, .inl pg)), (q6, .inl (G.2.1, 770, .inl bk))]) := hD4
  refine lv_if_eq (x := 0) (tgt := 14) hx hb dX7_turn_9 (by decide) (fun (c2 : 0 = 0) => ?_) (fun (c2 : ¬ (0 = 0)) => absurd (by decide) c2)
  refine lv_aload_n hx hb dX7_turn_14 rfl (lv_at hl 0 rfl) ?_
  refine k_callv (kRunV (As := []) (rest := []) kx (c_X7_note l G (upd (upd Z 10 (nI d)) 0 0) d sd h0 q1 q2 q3 q4 q5 q6 q7 q8 q9 q10 q11 pg bk (by omega)) q_855 q_852 q_36 q_854 q_24 nX7_note ⟨Nat.le_of_ble_eq_true rfl, Nat.le_of_ble_eq_true rfl⟩ hK hP5 hD6 (kCtx_all _) 0 7 rfl rfl rfl rfl hl.1 (Nat.le_of_ble_eq_true rfl) dX7_turn_15 ⟨Nat.zero_le _, Nat.zero_le _⟩) hP5 hD6 hS4 hA (kCtx_all _) (fun _ => rfl) (fun F4 H7 locs7 hw hP7 hD7 hS7 => ?_)
  have hF4 : kNoteB d bk pg = F4 := (show F4 = kNoteB d bk pg from hw).symm
  have hP8 : va_P G.1 vwCl ([(h0, .inr (7, cM (upd (upd Z 0 0) 10 (nI (kNoteD d))) q1 q2 q3 q4 q5 q6 q7 q8 q9 q10 q11 sd)), (q4, .inl (G.2.1, 55, .inl pg)), (q6, .inl (G.2.1, 770, .inl F4))]) H7 := hP7
  have hD9 : va_D A ([(h0, .inr (7, cM (upd (upd Z 0 0) 10 (nI (kNoteD d))) q1 q2 q3 q4 q5 q6 q7 q8 q9 q10 q11 sd)), (q4, .inl (G.2.1, 55, .inl pg)), (q6, .inl (G.2.1, 770, .inl F4))]) := hD7
  refine lv_aload_n hx hb dX7_turn_18 rfl (lv_at hl 0 rfl) ?_
  refine va_get (ci := 7) (v := .ref q4) (C := RX7) (T := TX7) (N := 22) hx hb ht inX7 hown hK.1 hP8 0 rfl rfl 7 (by decide) (ht _ q_673) (fun _ h9 => h9) rfl dX7_turn_19 ?_
  refine lv_bipush (v := 32) hx hb dX7_turn_22 (by decide) ?_
  refine lv_iload_n hx hb dX7_turn_24 rfl (lv_at hl 1 rfl) ?_
  refine lv_iadd hx hb dX7_turn_25 ?_
  refine k_top (y := 33) (by decide +kernel) ?_
  refine lv_dup2_11 hx hb dX7_turn_26 rfl rfl ?_
  refine k_iald (v := (pg 33)) kx hK hP8 1 rfl 33 rfl (by decide) (by decide) rfl dX7_turn_27 ?_
  refine lv_iconst (v := 1) hx hb dX7_turn_28 (by decide) ?_
  refine lv_ixor hx hb dX7_turn_29 ?_
  refine k_iast kx hK hP8 hD9 hS7 1 rfl 33 rfl (by decide) (by decide) dX7_turn_30 (fun H10 locs10 hP10 hD10 hS10 => ?_)
  have hP11 : va_P G.1 vwCl ([(h0, .inr (7, cM (upd (upd Z 0 0) 10 (nI (kNoteD d))) q1 q2 q3 q4 q5 q6 q7 q8 q9 q10 q11 sd)), (q4, .inl (G.2.1, 55, .inl (upd pg 33 ((pg 33) ^^^ 1)))), (q6, .inl (G.2.1, 770, .inl F4))]) H10 := hP10
  have hD12 : va_D A ([(h0, .inr (7, cM (upd (upd Z 0 0) 10 (nI (kNoteD d))) q1 q2 q3 q4 q5 q6 q7 q8 q9 q10 q11 sd)), (q4, .inl (G.2.1, 55, .inl (upd pg 33 ((pg 33) ^^^ 1)))), (q6, .inl (G.2.1, 770, .inl F4))]) := hD10
  refine lv_aload_n hx hb dX7_turn_31 rfl (lv_at hl 0 rfl) ?_
  refine va_get (ci := 7) (v := .ref q4) (C := RX7) (T := TX7) (N := 22) hx hb ht inX7 hown hK.1 hP11 0 rfl rfl 7 (by decide) (ht _ q_673) (fun _ h9 => h9) rfl dX7_turn_32 ?_
  refine lv_bipush (v := 32) hx hb dX7_turn_35 (by decide) ?_
  refine lv_iload_n hx hb dX7_turn_37 rfl (lv_at hl 1 rfl) ?_
  refine lv_iadd hx hb dX7_turn_38 ?_
  refine k_top (y := 33) (by decide +kernel) ?_
  refine k_iald (v := ((pg 33) ^^^ 1)) kx hK hP11 1 rfl 33 rfl (by decide) (by decide) rfl dX7_turn_39 ?_
  subst hF4
  exact k_iret kx hK hP11 hD12 hS10 (u := ()) rfl rfl dX7_turn_40

def r_X7_poll_1 (pg : Nat → Int32) : Int32 := if (r_X7_mayPoll_16 pg) = 0 then (-3) else r_X7_limitOn_16 (upd (upd (upd pg 22 1) 24 0) 25 0)
def s_X7_poll_1_Z (Z : Nat → Int32) (d : Nat) (pg : Nat → Int32) : Nat → Int32 := if (r_X7_mayPoll_16 pg) = 0 then (upd (upd Z 10 (nI d)) 0 0) else upd (upd Z 0 0) 10 (nI (kNoteD d))
def s_X7_poll_1_pg (pg : Nat → Int32) : Nat → Int32 := if (r_X7_mayPoll_16 pg) = 0 then pg else upd (upd (upd pg 22 1) 24 0) 25 0
def s_X7_poll_1_bk (d : Nat) (pg : Nat → Int32) (bk : Nat → Int32) : Nat → Int32 := if (r_X7_mayPoll_16 pg) = 0 then bk else kNoteB d bk pg
set_option maxHeartbeats 4000000 in
set_option maxRecDepth 100000 in
theorem c_X7_poll_1 (l : Launch) (G : kG) (Z : Nat → Int32) (d : Nat) (sd : Int64) (h0 : Nat) (q1 : Nat) (q2 : Nat) (q3 : Nat) (q4 : Nat) (q5 : Nat) (q6 : Nat) (q7 : Nat) (q8 : Nat) (q9 : Nat) (q10 : Nat) (q11 : Nat) (pg : Nat → Int32) (bk : Nat → Int32) (hd : d ≤ 14) : cG l G yX7_poll cX7_poll 2 (some .int) 2 [.ref h0, .int 1] ([(h0, .inr (7, cM (upd Z 10 (nI d)) q1 q2 q3 q4 q5 q6 q7 q8 q9 q10 q11 sd)), (q4, .inl (G.2.1, 55, .inl pg)), (q6, .inl (G.2.1, 770, .inl bk))]) (qI G (fun (r : Int32) (u : ((Nat → Int32) × (Nat → Int32) × (Nat → Int32))) => r = r_X7_poll_1 pg ∧ u.1 = s_X7_poll_1_Z Z d pg ∧ u.2.1 = s_X7_poll_1_pg pg ∧ u.2.2 = s_X7_poll_1_bk d pg bk) (fun u => [(h0, .inr (7, cM u.1 q1 q2 q3 q4 q5 q6 q7 q8 q9 q10 q11 sd)), (q4, .inl (G.2.1, 55, .inl u.2.1)), (q6, .inl (G.2.1, 770, .inl u.2.2))])) := by
  refine kintro (by decide) (Nat.le_of_ble_eq_true rfl) ?_
  intro p e s m args below meth c A ls kx hK hP hD hS hA hl
  have kx : kX p s m args meth c cX7_poll 2 (some .int) RX7 := kx
  have hx := kx.1
  have hb := kx.2.1
  have hown := kx.2.2.2.2.1
  have ht := kx.2.2.2.2.2.2
  have hl : lv_has ls 2 [(0, .ref h0), (1, .int 1)] := hl
  refine lv_aload_n hx hb dX7_poll_0 rfl (lv_at hl 0 rfl) ?_
  refine lv_iconst (v := 0) hx hb dX7_poll_1 (by decide) ?_
  refine va_put (ci := 7) (v := .int 0) (ty := .int) (C := RX7) (T := TX7) (N := 22) hx hb ht inX7 tyX7 tyX7_ok nmX7 hown hK.1 hP hD hS 0 rfl rfl 0 (by decide) (ht _ q_666) (fun _ h9 => h9) rfl (by decide +kernel) rfl rfl (Nat.le_of_ble_eq_true rfl) dX7_poll_2 (fun H1 locs1 hP1 hD1 hS1 => ?_)
  have hP2 : va_P G.1 vwCl ([(h0, .inr (7, cM (upd (upd Z 10 (nI d)) 0 0) q1 q2 q3 q4 q5 q6 q7 q8 q9 q10 q11 sd)), (q4, .inl (G.2.1, 55, .inl pg)), (q6, .inl (G.2.1, 770, .inl bk))]) H1 := hP1
  have hD3 : va_D A ([(h0, .inr (7, cM (upd (upd Z 10 (nI d)) 0 0) q1 q2 q3 q4 q5 q6 q7 q8 q9 q10 q11 sd)), (q4, .inl (G.2.1, 55, .inl pg)), (q6, .inl (G.2.1, 770, .inl bk))]) := hD1
  refine lv_iload_n hx hb dX7_poll_5 rfl (lv_at hl 1 rfl) ?_
  refine k_calli (kRunS (As := [.int 1]) (rest := []) kx (c_X7_noEnd_1 l G ) q_824 q_822 q_36 q_823 nX7_noEnd ⟨Nat.le_of_ble_eq_true rfl, Nat.le_of_ble_eq_true rfl⟩ hK hP2 hD3 (kCtx_nil _) rfl hl.1 (Nat.le_of_ble_eq_true rfl) dX7_poll_6 ⟨Nat.zero_le _, Nat.zero_le _⟩) hP2 hD3 hS1 hA (kCtx_nil _) (fun _ => rfl) (fun r1 _ H4 locs4 hw hP4 hD4 hS4 => ?_)
  have hr1 : 0 = r1 := (show r1 = 0 from hw).symm
  subst hr1
  have hP5 : va_P G.1 vwCl ([(h0, .inr (7, cM (upd (upd Z 10 (nI d)) 0 0) q1 q2 q3 q4 q5 q6 q7 q8 q9 q10 q11 sd)), (q4, .inl (G.2.1, 55, .inl pg)), (q6, .inl (G.2.1, 770, .inl bk))]) H4 := hP4
  have hD6 : va_D A ([(h0, .inr (7, cM (upd (upd Z 10 (nI d)) 0 0) q1 q2 q3 q4 q5 q6 q7 q8 q9 q10 q11 sd)), (q4, .inl (G.2.1, 55, .inl pg)), (q6, .inl (G.2.1, 770, .inl bk))]) := hD4
  refine lv_if_eq (x := 0) (tgt := 14) hx hb dX7_poll_9 (by decide) (fun (c2 : 0 = 0) => ?_) (fun (c2 : ¬ (0 = 0)) => absurd (by decide) c2)
  refine lv_aload_n hx hb dX7_poll_14 rfl (lv_at hl 0 rfl) ?_
  refine va_get (ci := 7) (v := .ref q4) (C := RX7) (T := TX7) (N := 22) hx hb ht inX7 hown hK.1 hP5 0 rfl rfl 7 (by decide) (ht _ q_673) (fun _ h9 => h9) rfl dX7_poll_15 ?_
  refine lv_bipush (v := 16) hx hb dX7_poll_18 (by decide) ?_
  refine lv_iload_n hx hb dX7_poll_20 rfl (lv_at hl 1 rfl) ?_
  refine lv_imul hx hb dX7_poll_21 ?_
  refine k_top (y := 16) (by decide +kernel) ?_
  refine k_calli (kRunS (As := [.ref q4, .int 16]) (rest := []) kx (c_X7_mayPoll_16 l G pg q4) q_885 q_883 q_36 q_884 nX7_mayPoll ⟨Nat.le_of_ble_eq_true rfl, Nat.le_of_ble_eq_true rfl⟩ hK hP5 hD6 (kCtx_places _ _ [1] rfl rfl) rfl hl.1 (Nat.le_of_ble_eq_true rfl) dX7_poll_22 ⟨Nat.zero_le _, Nat.zero_le _⟩) hP5 hD6 hS4 hA (kCtx_places _ _ [1] rfl rfl) (fun _ => rfl) (fun r3 _ H7 locs7 hw hP7 hD7 hS7 => ?_)
  have hr3 : r_X7_mayPoll_16 pg = r3 := (show r3 = r_X7_mayPoll_16 pg from hw).symm
  have hP8 : va_P G.1 vwCl ([(h0, .inr (7, cM (upd (upd Z 10 (nI d)) 0 0) q1 q2 q3 q4 q5 q6 q7 q8 q9 q10 q11 sd)), (q4, .inl (G.2.1, 55, .inl pg)), (q6, .inl (G.2.1, 770, .inl bk))]) H7 := hP7
  have hD9 : va_D A ([(h0, .inr (7, cM (upd (upd Z 10 (nI d)) 0 0) q1 q2 q3 q4 q5 q6 q7 q8 q9 q10 q11 sd)), (q4, .inl (G.2.1, 55, .inl pg)), (q6, .inl (G.2.1, 770, .inl bk))]) := hD7
  refine lv_if_ne (x := r3) (tgt := 31) hx hb dX7_poll_25 (by decide) (fun (c4 : ¬ (r3 = 0)) => ?_) (fun (c4 : r3 = 0) => ?_)
  · skip
    refine lv_aload_n hx hb dX7_poll_31 rfl (lv_at hl 0 rfl) ?_
    refine k_callv (kRunV (As := []) (rest := []) kx (c_X7_note l G (upd (upd Z 10 (nI d)) 0 0) d sd h0 q1 q2 q3 q4 q5 q6 q7 q8 q9 q10 q11 pg bk (by omega)) q_855 q_852 q_36 q_854 q_24 nX7_note ⟨Nat.le_of_ble_eq_true rfl, Nat.le_of_ble_eq_true rfl⟩ hK hP8 hD9 (kCtx_all _) 0 7 rfl rfl rfl rfl hl.1 (Nat.le_of_ble_eq_true rfl) dX7_poll_32 ⟨Nat.zero_le _, Nat.zero_le _⟩) hP8 hD9 hS7 hA (kCtx_all _) (fun _ => rfl) (fun F6 H10 locs10 hw hP10 hD10 hS10 => ?_)
    have hF6 : kNoteB d bk pg = F6 := (show F6 = kNoteB d bk pg from hw).symm
    have hP11 : va_P G.1 vwCl ([(h0, .inr (7, cM (upd (upd Z 0 0) 10 (nI (kNoteD d))) q1 q2 q3 q4 q5 q6 q7 q8 q9 q10 q11 sd)), (q4, .inl (G.2.1, 55, .inl pg)), (q6, .inl (G.2.1, 770, .inl F6))]) H10 := hP10
    have hD12 : va_D A ([(h0, .inr (7, cM (upd (upd Z 0 0) 10 (nI (kNoteD d))) q1 q2 q3 q4 q5 q6 q7 q8 q9 q10 q11 sd)), (q4, .inl (G.2.1, 55, .inl pg)), (q6, .inl (G.2.1, 770, .inl F6))]) := hD10
    refine lv_aload_n hx hb dX7_poll_35 rfl (lv_at hl 0 rfl) ?_
    refine va_get (ci := 7) (v := .ref q4) (C := RX7) (T := TX7) (N := 22) hx hb ht inX7 hown hK.1 hP11 0 rfl rfl 7 (by decide) (ht _ q_673) (fun _ h9 => h9) rfl dX7_poll_36 ?_
    refine lv_bipush (v := 16) hx hb dX7_poll_39 (by decide) ?_
    refine lv_iload_n hx hb dX7_poll_41 rfl (lv_at hl 1 rfl) ?_
    refine lv_imul hx hb dX7_poll_42 ?_
    refine k_top (y := 16) (by decide +kernel) ?_
    refine k_callv (kRunS (As := [.ref q4, .int 16]) (rest := []) kx (c_X7_pollOn_16 l G pg q4) q_888 q_886 q_36 q_887 nX7_pollOn ⟨Nat.le_of_ble_eq_true rfl, Nat.le_of_ble_eq_true rfl⟩ hK hP11 hD12 (kCtx_places _ _ [1] rfl rfl) rfl hl.1 (Nat.le_of_ble_eq_true rfl) dX7_poll_43 ⟨Nat.zero_le _, Nat.zero_le _⟩) hP11 hD12 hS10 hA (kCtx_places _ _ [1] rfl rfl) (fun _ => rfl) (fun _ H13 locs13 hw hP13 hD13 hS13 => ?_)
    have hP14 : va_P G.1 vwCl ([(h0, .inr (7, cM (upd (upd Z 0 0) 10 (nI (kNoteD d))) q1 q2 q3 q4 q5 q6 q7 q8 q9 q10 q11 sd)), (q4, .inl (G.2.1, 55, .inl (upd (upd (upd pg 22 1) 24 0) 25 0))), (q6, .inl (G.2.1, 770, .inl F6))]) H13 := hP13
    have hD15 : va_D A ([(h0, .inr (7, cM (upd (upd Z 0 0) 10 (nI (kNoteD d))) q1 q2 q3 q4 q5 q6 q7 q8 q9 q10 q11 sd)), (q4, .inl (G.2.1, 55, .inl (upd (upd (upd pg 22 1) 24 0) 25 0))), (q6, .inl (G.2.1, 770, .inl F6))]) := hD13
    refine lv_aload_n hx hb dX7_poll_46 rfl (lv_at hl 0 rfl) ?_
    refine va_get (ci := 7) (v := .ref q4) (C := RX7) (T := TX7) (N := 22) hx hb ht inX7 hown hK.1 hP14 0 rfl rfl 7 (by decide) (ht _ q_673) (fun _ h9 => h9) rfl dX7_poll_47 ?_
    refine lv_bipush (v := 16) hx hb dX7_poll_50 (by decide) ?_
    refine lv_iload_n hx hb dX7_poll_52 rfl (lv_at hl 1 rfl) ?_
    refine lv_imul hx hb dX7_poll_53 ?_
    refine k_top (y := 16) (by decide +kernel) ?_
    refine k_calli (kRunS (As := [.ref q4, .int 16]) (rest := []) kx (c_X7_limitOn_16 l G (upd (upd (upd pg 22 1) 24 0) 25 0) q4) q_801 q_799 q_36 q_800 nX7_limitOn ⟨Nat.le_of_ble_eq_true rfl, Nat.le_of_ble_eq_true rfl⟩ hK hP14 hD15 (kCtx_places _ _ [1] rfl rfl) rfl hl.1 (Nat.le_of_ble_eq_true rfl) dX7_poll_54 ⟨Nat.zero_le _, Nat.zero_le _⟩) hP14 hD15 hS13 hA (kCtx_places _ _ [1] rfl rfl) (fun _ => rfl) (fun r8 _ H16 locs16 hw hP16 hD16 hS16 => ?_)
    have hr8 : r_X7_limitOn_16 (upd (upd (upd pg 22 1) 24 0) 25 0) = r8 := (show r8 = r_X7_limitOn_16 (upd (upd (upd pg 22 1) 24 0) 25 0) from hw).symm
    have hP17 : va_P G.1 vwCl ([(h0, .inr (7, cM (upd (upd Z 0 0) 10 (nI (kNoteD d))) q1 q2 q3 q4 q5 q6 q7 q8 q9 q10 q11 sd)), (q4, .inl (G.2.1, 55, .inl (upd (upd (upd pg 22 1) 24 0) 25 0))), (q6, .inl (G.2.1, 770, .inl F6))]) H16 := hP16
    have hD18 : va_D A ([(h0, .inr (7, cM (upd (upd Z 0 0) 10 (nI (kNoteD d))) q1 q2 q3 q4 q5 q6 q7 q8 q9 q10 q11 sd)), (q4, .inl (G.2.1, 55, .inl (upd (upd (upd pg 22 1) 24 0) 25 0))), (q6, .inl (G.2.1, 770, .inl F6))]) := hD16
    have er : r_X7_poll_1 pg = r8 := by rw [r_X7_poll_1]; (try rw [hr3]); (try rw [hF6]); (try rw [hr8]); rw [if_neg c4]
    have e0 : s_X7_poll_1_Z Z d pg = upd (upd Z 0 0) 10 (nI (kNoteD d)) := by rw [s_X7_poll_1_Z]; (try rw [hr3]); (try rw [hF6]); (try rw [hr8]); rw [if_neg c4]
    have e1 : s_X7_poll_1_pg pg = upd (upd (upd pg 22 1) 24 0) 25 0 := by rw [s_X7_poll_1_pg]; (try rw [hr3]); (try rw [hF6]); (try rw [hr8]); rw [if_neg c4]
    have e2 : s_X7_poll_1_bk d pg bk = F6 := by rw [s_X7_poll_1_bk]; (try rw [hr3]); (try rw [hF6]); (try rw [hr8]); rw [if_neg c4]
    exact k_iret kx hK hP17 hD18 hS16 (u := (upd (upd Z 0 0) 10 (nI (kNoteD d)), upd (upd (upd pg 22 1) 24 0) 25 0, F6)) rfl ⟨er.symm, e0.symm, e1.symm, e2.symm⟩ dX7_poll_57
  · skip
    refine lv_bipush (v := (-3)) hx hb dX7_poll_28 (by decide) ?_
    have er : r_X7_poll_1 pg = (-3) := by rw [r_X7_poll_1]; (try rw [hr3]); rw [if_pos c4]
    have e0 : s_X7_poll_1_Z Z d pg = upd (upd Z 10 (nI d)) 0 0 := by rw [s_X7_poll_1_Z]; (try rw [hr3]); rw [if_pos c4]
    have e1 : s_X7_poll_1_pg pg = pg := by rw [s_X7_poll_1_pg]; (try rw [hr3]); rw [if_pos c4]
    have e2 : s_X7_poll_1_bk d pg bk = bk := by rw [s_X7_poll_1_bk]; (try rw [hr3]); rw [if_pos c4]
    exact k_iret kx hK hP8 hD9 hS7 (u := (upd (upd Z 10 (nI d)) 0 0, pg, bk)) rfl ⟨er.symm, e0.symm, e1.symm, e2.symm⟩ dX7_poll_30

set_option maxHeartbeats 4000000 in
set_option maxRecDepth 100000 in
theorem c_X7_tell_x (l : Launch) (G : kG) (Z : Nat → Int32) (sd : Int64) (h0 : Nat) (q1 : Nat) (q2 : Nat) (q3 : Nat) (q4 : Nat) (q5 : Nat) (q6 : Nat) (q7 : Nat) (q8 : Nat) (q9 : Nat) (q10 : Nat) (q11 : Nat) (p0 : Int32) (p1 : Int32) (p2 : Int32) (h9 : ¬ p0 = 0) (h8 : ¬ p0 = 1) : cG l G yX7_tell cX7_tell 5 (some .int) 2 [.ref h0, .int p0, .int p1, .int p2] ([(h0, .inr (7, cM Z q1 q2 q3 q4 q5 q6 q7 q8 q9 q10 q11 sd))]) (qI G (fun (r : Int32) (_ : Unit) => r = (-1)) (fun _ => [(h0, .inr (7, cM (upd Z 0 0) q1 q2 q3 q4 q5 q6 q7 q8 q9 q10 q11 sd))])) := by
  refine kintro (by decide) (Nat.le_of_ble_eq_true rfl) ?_
  intro p e s m args below meth c A ls kx hK hP hD hS hA hl
  have kx : kX p s m args meth c cX7_tell 5 (some .int) RX7 := kx
  have hx := kx.1
  have hb := kx.2.1
  have hown := kx.2.2.2.2.1
  have ht := kx.2.2.2.2.2.2
  have hl : lv_has ls 5 [(0, .ref h0), (1, .int p0), (2, .int p1), (3, .int p2)] := hl
  refine lv_aload_n hx hb dX7_tell_0 rfl (lv_at hl 0 rfl) ?_
  refine lv_iconst (v := 0) hx hb dX7_tell_1 (by decide) ?_
  refine va_put (ci := 7) (v := .int 0) (ty := .int) (C := RX7) (T := TX7) (N := 22) hx hb ht inX7 tyX7 tyX7_ok nmX7 hown hK.1 hP hD hS 0 rfl rfl 0 (by decide) (ht _ q_666) (fun _ h9 => h9) rfl (by decide +kernel) rfl rfl (Nat.le_of_ble_eq_true rfl) dX7_tell_2 (fun H1 locs1 hP1 hD1 hS1 => ?_)
  have hP2 : va_P G.1 vwCl ([(h0, .inr (7, cM (upd Z 0 0) q1 q2 q3 q4 q5 q6 q7 q8 q9 q10 q11 sd))]) H1 := hP1
  have hD3 : va_D A ([(h0, .inr (7, cM (upd Z 0 0) q1 q2 q3 q4 q5 q6 q7 q8 q9 q10 q11 sd))]) := hD1
  refine lv_iload_n hx hb dX7_tell_5 rfl (lv_at hl 1 rfl) ?_
  refine k_calli (kRunS (As := [.int p0]) (rest := []) kx (c_X7_noEnd_x l G p0 h9 h8) q_824 q_822 q_36 q_823 nX7_noEnd ⟨Nat.le_of_ble_eq_true rfl, Nat.le_of_ble_eq_true rfl⟩ hK hP2 hD3 (kCtx_nil _) rfl hl.1 (Nat.le_of_ble_eq_true rfl) dX7_tell_6 ⟨Nat.zero_le _, Nat.zero_le _⟩) hP2 hD3 hS1 hA (kCtx_nil _) (fun _ => rfl) (fun r1 _ H4 locs4 hw hP4 hD4 hS4 => ?_)
  have hr1 : 1 = r1 := (show r1 = 1 from hw).symm
  subst hr1
  have hP5 : va_P G.1 vwCl ([(h0, .inr (7, cM (upd Z 0 0) q1 q2 q3 q4 q5 q6 q7 q8 q9 q10 q11 sd))]) H4 := hP4
  have hD6 : va_D A ([(h0, .inr (7, cM (upd Z 0 0) q1 q2 q3 q4 q5 q6 q7 q8 q9 q10 q11 sd))]) := hD4
  refine lv_if_eq (x := 1) (tgt := 14) hx hb dX7_tell_9 (by decide) (fun (c2 : 1 = 0) => absurd c2 (by decide)) (fun (c2 : ¬ (1 = 0)) => ?_)
  refine lv_iconst (v := (-1)) hx hb dX7_tell_12 (by decide) ?_
  exact k_iret kx hK hP5 hD6 hS4 (u := ()) rfl rfl dX7_tell_13

set_option maxHeartbeats 4000000 in
set_option maxRecDepth 100000 in
theorem c_X7_demand_x (l : Launch) (G : kG) (Z : Nat → Int32) (sd : Int64) (h0 : Nat) (q1 : Nat) (q2 : Nat) (q3 : Nat) (q4 : Nat) (q5 : Nat) (q6 : Nat) (q7 : Nat) (q8 : Nat) (q9 : Nat) (q10 : Nat) (q11 : Nat) (p0 : Int32) (h9 : ¬ p0 = 0) (h8 : ¬ p0 = 1) : cG l G yX7_demand cX7_demand 2 (some .int) 2 [.ref h0, .int p0] ([(h0, .inr (7, cM Z q1 q2 q3 q4 q5 q6 q7 q8 q9 q10 q11 sd))]) (qI G (fun (r : Int32) (_ : Unit) => r = (-1)) (fun _ => [(h0, .inr (7, cM (upd Z 0 0) q1 q2 q3 q4 q5 q6 q7 q8 q9 q10 q11 sd))])) := by
  refine kintro (by decide) (Nat.le_of_ble_eq_true rfl) ?_
  intro p e s m args below meth c A ls kx hK hP hD hS hA hl
  have kx : kX p s m args meth c cX7_demand 2 (some .int) RX7 := kx
  have hx := kx.1
  have hb := kx.2.1
  have hown := kx.2.2.2.2.1
  have ht := kx.2.2.2.2.2.2
  have hl : lv_has ls 2 [(0, .ref h0), (1, .int p0)] := hl
  refine lv_aload_n hx hb dX7_demand_0 rfl (lv_at hl 0 rfl) ?_
  refine lv_iconst (v := 0) hx hb dX7_demand_1 (by decide) ?_
  refine va_put (ci := 7) (v := .int 0) (ty := .int) (C := RX7) (T := TX7) (N := 22) hx hb ht inX7 tyX7 tyX7_ok nmX7 hown hK.1 hP hD hS 0 rfl rfl 0 (by decide) (ht _ q_666) (fun _ h9 => h9) rfl (by decide +kernel) rfl rfl (Nat.le_of_ble_eq_true rfl) dX7_demand_2 (fun H1 locs1 hP1 hD1 hS1 => ?_)
  have hP2 : va_P G.1 vwCl ([(h0, .inr (7, cM (upd Z 0 0) q1 q2 q3 q4 q5 q6 q7 q8 q9 q10 q11 sd))]) H1 := hP1
  have hD3 : va_D A ([(h0, .inr (7, cM (upd Z 0 0) q1 q2 q3 q4 q5 q6 q7 q8 q9 q10 q11 sd))]) := hD1
  refine lv_iload_n hx hb dX7_demand_5 rfl (lv_at hl 1 rfl) ?_
  refine k_calli (kRunS (As := [.int p0]) (rest := []) kx (c_X7_noEnd_x l G p0 h9 h8) q_824 q_822 q_36 q_823 nX7_noEnd ⟨Nat.le_of_ble_eq_true rfl, Nat.le_of_ble_eq_true rfl⟩ hK hP2 hD3 (kCtx_nil _) rfl hl.1 (Nat.le_of_ble_eq_true rfl) dX7_demand_6 ⟨Nat.zero_le _, Nat.zero_le _⟩) hP2 hD3 hS1 hA (kCtx_nil _) (fun _ => rfl) (fun r1 _ H4 locs4 hw hP4 hD4 hS4 => ?_)
  have hr1 : 1 = r1 := (show r1 = 1 from hw).symm
  subst hr1
  have hP5 : va_P G.1 vwCl ([(h0, .inr (7, cM (upd Z 0 0) q1 q2 q3 q4 q5 q6 q7 q8 q9 q10 q11 sd))]) H4 := hP4
  have hD6 : va_D A ([(h0, .inr (7, cM (upd Z 0 0) q1 q2 q3 q4 q5 q6 q7 q8 q9 q10 q11 sd))]) := hD4
  refine lv_if_eq (x := 1) (tgt := 14) hx hb dX7_demand_9 (by decide) (fun (c2 : 1 = 0) => absurd c2 (by decide)) (fun (c2 : ¬ (1 = 0)) => ?_)
  refine lv_iconst (v := (-1)) hx hb dX7_demand_12 (by decide) ?_
  exact k_iret kx hK hP5 hD6 hS4 (u := ()) rfl rfl dX7_demand_13

set_option maxHeartbeats 4000000 in
set_option maxRecDepth 100000 in
theorem c_X7_turn_x (l : Launch) (G : kG) (Z : Nat → Int32) (sd : Int64) (h0 : Nat) (q1 : Nat) (q2 : Nat) (q3 : Nat) (q4 : Nat) (q5 : Nat) (q6 : Nat) (q7 : Nat) (q8 : Nat) (q9 : Nat) (q10 : Nat) (q11 : Nat) (p0 : Int32) (h9 : ¬ p0 = 0) (h8 : ¬ p0 = 1) : cG l G yX7_turn cX7_turn 2 (some .int) 2 [.ref h0, .int p0] ([(h0, .inr (7, cM Z q1 q2 q3 q4 q5 q6 q7 q8 q9 q10 q11 sd))]) (qI G (fun (r : Int32) (_ : Unit) => r = (-1)) (fun _ => [(h0, .inr (7, cM (upd Z 0 0) q1 q2 q3 q4 q5 q6 q7 q8 q9 q10 q11 sd))])) := by
  refine kintro (by decide) (Nat.le_of_ble_eq_true rfl) ?_
  intro p e s m args below meth c A ls kx hK hP hD hS hA hl
  have kx : kX p s m args meth c cX7_turn 2 (some .int) RX7 := kx
  have hx := kx.1
  have hb := kx.2.1
  have hown := kx.2.2.2.2.1
  have ht := kx.2.2.2.2.2.2
  have hl : lv_has ls 2 [(0, .ref h0), (1, .int p0)] := hl
  refine lv_aload_n hx hb dX7_turn_0 rfl (lv_at hl 0 rfl) ?_
  refine lv_iconst (v := 0) hx hb dX7_turn_1 (by decide) ?_
  refine va_put (ci := 7) (v := .int 0) (ty := .int) (C := RX7) (T := TX7) (N := 22) hx hb ht inX7 tyX7 tyX7_ok nmX7 hown hK.1 hP hD hS 0 rfl rfl 0 (by decide) (ht _ q_666) (fun _ h9 => h9) rfl (by decide +kernel) rfl rfl (Nat.le_of_ble_eq_true rfl) dX7_turn_2 (fun H1 locs1 hP1 hD1 hS1 => ?_)
  have hP2 : va_P G.1 vwCl ([(h0, .inr (7, cM (upd Z 0 0) q1 q2 q3 q4 q5 q6 q7 q8 q9 q10 q11 sd))]) H1 := hP1
  have hD3 : va_D A ([(h0, .inr (7, cM (upd Z 0 0) q1 q2 q3 q4 q5 q6 q7 q8 q9 q10 q11 sd))]) := hD1
  refine lv_iload_n hx hb dX7_turn_5 rfl (lv_at hl 1 rfl) ?_
  refine k_calli (kRunS (As := [.int p0]) (rest := []) kx (c_X7_noEnd_x l G p0 h9 h8) q_824 q_822 q_36 q_823 nX7_noEnd ⟨Nat.le_of_ble_eq_true rfl, Nat.le_of_ble_eq_true rfl⟩ hK hP2 hD3 (kCtx_nil _) rfl hl.1 (Nat.le_of_ble_eq_true rfl) dX7_turn_6 ⟨Nat.zero_le _, Nat.zero_le _⟩) hP2 hD3 hS1 hA (kCtx_nil _) (fun _ => rfl) (fun r1 _ H4 locs4 hw hP4 hD4 hS4 => ?_)
  have hr1 : 1 = r1 := (show r1 = 1 from hw).symm
  subst hr1
  have hP5 : va_P G.1 vwCl ([(h0, .inr (7, cM (upd Z 0 0) q1 q2 q3 q4 q5 q6 q7 q8 q9 q10 q11 sd))]) H4 := hP4
  have hD6 : va_D A ([(h0, .inr (7, cM (upd Z 0 0) q1 q2 q3 q4 q5 q6 q7 q8 q9 q10 q11 sd))]) := hD4
  refine lv_if_eq (x := 1) (tgt := 14) hx hb dX7_turn_9 (by decide) (fun (c2 : 1 = 0) => absurd c2 (by decide)) (fun (c2 : ¬ (1 = 0)) => ?_)
  refine lv_iconst (v := (-1)) hx hb dX7_turn_12 (by decide) ?_
  exact k_iret kx hK hP5 hD6 hS4 (u := ()) rfl rfl dX7_turn_13

set_option maxHeartbeats 4000000 in
set_option maxRecDepth 100000 in
theorem c_X7_poll_x (l : Launch) (G : kG) (Z : Nat → Int32) (sd : Int64) (h0 : Nat) (q1 : Nat) (q2 : Nat) (q3 : Nat) (q4 : Nat) (q5 : Nat) (q6 : Nat) (q7 : Nat) (q8 : Nat) (q9 : Nat) (q10 : Nat) (q11 : Nat) (p0 : Int32) (h9 : ¬ p0 = 0) (h8 : ¬ p0 = 1) : cG l G yX7_poll cX7_poll 2 (some .int) 2 [.ref h0, .int p0] ([(h0, .inr (7, cM Z q1 q2 q3 q4 q5 q6 q7 q8 q9 q10 q11 sd))]) (qI G (fun (r : Int32) (_ : Unit) => r = (-1)) (fun _ => [(h0, .inr (7, cM (upd Z 0 0) q1 q2 q3 q4 q5 q6 q7 q8 q9 q10 q11 sd))])) := by
  refine kintro (by decide) (Nat.le_of_ble_eq_true rfl) ?_
  intro p e s m args below meth c A ls kx hK hP hD hS hA hl
  have kx : kX p s m args meth c cX7_poll 2 (some .int) RX7 := kx
  have hx := kx.1
  have hb := kx.2.1
  have hown := kx.2.2.2.2.1
  have ht := kx.2.2.2.2.2.2
  have hl : lv_has ls 2 [(0, .ref h0), (1, .int p0)] := hl
  refine lv_aload_n hx hb dX7_poll_0 rfl (lv_at hl 0 rfl) ?_
  refine lv_iconst (v := 0) hx hb dX7_poll_1 (by decide) ?_
  refine va_put (ci := 7) (v := .int 0) (ty := .int) (C := RX7) (T := TX7) (N := 22) hx hb ht inX7 tyX7 tyX7_ok nmX7 hown hK.1 hP hD hS 0 rfl rfl 0 (by decide) (ht _ q_666) (fun _ h9 => h9) rfl (by decide +kernel) rfl rfl (Nat.le_of_ble_eq_true rfl) dX7_poll_2 (fun H1 locs1 hP1 hD1 hS1 => ?_)
  have hP2 : va_P G.1 vwCl ([(h0, .inr (7, cM (upd Z 0 0) q1 q2 q3 q4 q5 q6 q7 q8 q9 q10 q11 sd))]) H1 := hP1
  have hD3 : va_D A ([(h0, .inr (7, cM (upd Z 0 0) q1 q2 q3 q4 q5 q6 q7 q8 q9 q10 q11 sd))]) := hD1
  refine lv_iload_n hx hb dX7_poll_5 rfl (lv_at hl 1 rfl) ?_
  refine k_calli (kRunS (As := [.int p0]) (rest := []) kx (c_X7_noEnd_x l G p0 h9 h8) q_824 q_822 q_36 q_823 nX7_noEnd ⟨Nat.le_of_ble_eq_true rfl, Nat.le_of_ble_eq_true rfl⟩ hK hP2 hD3 (kCtx_nil _) rfl hl.1 (Nat.le_of_ble_eq_true rfl) dX7_poll_6 ⟨Nat.zero_le _, Nat.zero_le _⟩) hP2 hD3 hS1 hA (kCtx_nil _) (fun _ => rfl) (fun r1 _ H4 locs4 hw hP4 hD4 hS4 => ?_)
  have hr1 : 1 = r1 := (show r1 = 1 from hw).symm
  subst hr1
  have hP5 : va_P G.1 vwCl ([(h0, .inr (7, cM (upd Z 0 0) q1 q2 q3 q4 q5 q6 q7 q8 q9 q10 q11 sd))]) H4 := hP4
  have hD6 : va_D A ([(h0, .inr (7, cM (upd Z 0 0) q1 q2 q3 q4 q5 q6 q7 q8 q9 q10 q11 sd))]) := hD4
  refine lv_if_eq (x := 1) (tgt := 14) hx hb dX7_poll_9 (by decide) (fun (c2 : 1 = 0) => absurd c2 (by decide)) (fun (c2 : ¬ (1 = 0)) => ?_)
  refine lv_iconst (v := (-1)) hx hb dX7_poll_12 (by decide) ?_
  exact k_iret kx hK hP5 hD6 hS4 (u := ()) rfl rfl dX7_poll_13

def l_X7_undo_1_r (d : Nat) (bk : Nat → Int32) : Nat → Nat → (Nat → Int32) → Int32
  | 0, j1, pg_1 => (nI d) - 1
  | n1 + 1, j1, pg_1 => l_X7_undo_1_r d bk n1 (j1 + 1) (upd pg_1 j1 (bk ((55 * (d - 1)) + j1)))
def r_X7_undo (d : Nat) (pg : Nat → Int32) (bk : Nat → Int32) : Int32 := if nI d = 0 then (-3) else l_X7_undo_1_r d bk 55 0 pg
def l_X7_undo_1_Z (Z : Nat → Int32) (d : Nat) (bk : Nat → Int32) : Nat → Nat → (Nat → Int32) → Nat → Int32
  | 0, j1, pg_1 => upd (upd (upd Z 10 (nI d)) 0 0) 10 ((nI d) - 1)
  | n1 + 1, j1, pg_1 => l_X7_undo_1_Z Z d bk n1 (j1 + 1) (upd pg_1 j1 (bk ((55 * (d - 1)) + j1)))
def s_X7_undo_Z (Z : Nat → Int32) (d : Nat) (pg : Nat → Int32) (bk : Nat → Int32) : Nat → Int32 := if nI d = 0 then (upd (upd Z 10 (nI d)) 0 0) else l_X7_undo_1_Z Z d bk 55 0 pg
def l_X7_undo_1_pg (d : Nat) (bk : Nat → Int32) : Nat → Nat → (Nat → Int32) → Nat → Int32
  | 0, j1, pg_1 => pg_1
  | n1 + 1, j1, pg_1 => l_X7_undo_1_pg d bk n1 (j1 + 1) (upd pg_1 j1 (bk ((55 * (d - 1)) + j1)))
def s_X7_undo_pg (d : Nat) (pg : Nat → Int32) (bk : Nat → Int32) : Nat → Int32 := if nI d = 0 then pg else l_X7_undo_1_pg d bk 55 0 pg
set_option maxHeartbeats 4000000 in
set_option maxRecDepth 100000 in
theorem c_X7_undo (l : Launch) (G : kG) (Z : Nat → Int32) (d : Nat) (sd : Int64) (h0 : Nat) (q1 : Nat) (q2 : Nat) (q3 : Nat) (q4 : Nat) (q5 : Nat) (q6 : Nat) (q7 : Nat) (q8 : Nat) (q9 : Nat) (q10 : Nat) (q11 : Nat) (pg : Nat → Int32) (bk : Nat → Int32) (hd : d ≤ 14) : cG l G yX7_undo cX7_undo 2 (some .int) 0 [.ref h0] ([(h0, .inr (7, cM (upd Z 10 (nI d)) q1 q2 q3 q4 q5 q6 q7 q8 q9 q10 q11 sd)), (q4, .inl (G.2.1, 55, .inl pg)), (q6, .inl (G.2.1, 770, .inl bk))]) (qI G (fun (r : Int32) (u : ((Nat → Int32) × (Nat → Int32))) => r = r_X7_undo d pg bk ∧ u.1 = s_X7_undo_Z Z d pg bk ∧ u.2 = s_X7_undo_pg d pg bk) (fun u => [(h0, .inr (7, cM u.1 q1 q2 q3 q4 q5 q6 q7 q8 q9 q10 q11 sd)), (q4, .inl (G.2.1, 55, .inl u.2)), (q6, .inl (G.2.1, 770, .inl bk))])) := by
  refine kintro (by decide) (Nat.le_of_ble_eq_true rfl) ?_
  intro p e s m args below meth c A ls kx hK hP hD hS hA hl
  have kx : kX p s m args meth c cX7_undo 2 (some .int) RX7 := kx
  have hx := kx.1
  have hb := kx.2.1
  have hown := kx.2.2.2.2.1
  have ht := kx.2.2.2.2.2.2
  have hl : lv_has ls 2 [(0, .ref h0)] := hl
  refine lv_aload_n hx hb dX7_undo_0 rfl (lv_at hl 0 rfl) ?_
  refine lv_iconst (v := 0) hx hb dX7_undo_1 (by decide) ?_
  refine va_put (ci := 7) (v := .int 0) (ty := .int) (C := RX7) (T := TX7) (N := 22) hx hb ht inX7 tyX7 tyX7_ok nmX7 hown hK.1 hP hD hS 0 rfl rfl 0 (by decide) (ht _ q_666) (fun _ h9 => h9) rfl (by decide +kernel) rfl rfl (Nat.le_of_ble_eq_true rfl) dX7_undo_2 (fun H1 locs1 hP1 hD1 hS1 => ?_)
  have hP2 : va_P G.1 vwCl ([(h0, .inr (7, cM (upd (upd Z 10 (nI d)) 0 0) q1 q2 q3 q4 q5 q6 q7 q8 q9 q10 q11 sd)), (q4, .inl (G.2.1, 55, .inl pg)), (q6, .inl (G.2.1, 770, .inl bk))]) H1 := hP1
  have hD3 : va_D A ([(h0, .inr (7, cM (upd (upd Z 10 (nI d)) 0 0) q1 q2 q3 q4 q5 q6 q7 q8 q9 q10 q11 sd)), (q4, .inl (G.2.1, 55, .inl pg)), (q6, .inl (G.2.1, 770, .inl bk))]) := hD1
  refine lv_aload_n hx hb dX7_undo_5 rfl (lv_at hl 0 rfl) ?_
  refine va_get (ci := 7) (v := .int (nI d)) (C := RX7) (T := TX7) (N := 22) hx hb ht inX7 hown hK.1 hP2 0 rfl rfl 10 (by decide) (ht _ q_676) (fun _ h9 => h9) rfl dX7_undo_6 ?_
  refine lv_if_ne (x := nI d) (tgt := 15) hx hb dX7_undo_9 (by decide) (fun (c1 : ¬ (nI d = 0)) => ?_) (fun (c1 : nI d = 0) => ?_)
  · skip
    have nec1 : d ≠ 0 := fun q => c1 (by rw [q]; rfl)
    refine lv_aload_n hx hb dX7_undo_15 rfl (lv_at hl 0 rfl) ?_
    refine lv_dup hx hb dX7_undo_16 rfl ?_
    refine va_get (ci := 7) (v := .int (nI d)) (C := RX7) (T := TX7) (N := 22) hx hb ht inX7 hown hK.1 hP2 0 rfl rfl 10 (by decide) (ht _ q_676) (fun _ h9 => h9) rfl dX7_undo_17 ?_
    refine lv_iconst (v := 1) hx hb dX7_undo_20 (by decide) ?_
    refine lv_isub hx hb dX7_undo_21 ?_
    refine va_put (ci := 7) (v := .int ((nI d) - 1)) (ty := .int) (C := RX7) (T := TX7) (N := 22) hx hb ht inX7 tyX7 tyX7_ok nmX7 hown hK.1 hP2 hD3 hS1 0 rfl rfl 10 (by decide) (ht _ q_676) (fun _ h9 => h9) rfl (by decide +kernel) rfl rfl (Nat.le_of_ble_eq_true rfl) dX7_undo_22 (fun H4 locs4 hP4 hD4 hS4 => ?_)
    have hP5 : va_P G.1 vwCl ([(h0, .inr (7, cM (upd (upd (upd Z 10 (nI d)) 0 0) 10 ((nI d) - 1)) q1 q2 q3 q4 q5 q6 q7 q8 q9 q10 q11 sd)), (q4, .inl (G.2.1, 55, .inl pg)), (q6, .inl (G.2.1, 770, .inl bk))]) H4 := hP4
    have hD6 : va_D A ([(h0, .inr (7, cM (upd (upd (upd Z 10 (nI d)) 0 0) 10 ((nI d) - 1)) q1 q2 q3 q4 q5 q6 q7 q8 q9 q10 q11 sd)), (q4, .inl (G.2.1, 55, .inl pg)), (q6, .inl (G.2.1, 770, .inl bk))]) := hD4
    refine lv_iconst (v := 0) hx hb dX7_undo_25 (by decide) ?_
    refine lv_istore_n (lv' := [(1, .int 0), (0, .ref h0)]) hx hb dX7_undo_26 rfl hl (by decide) rfl (fun ls7 hl7 => ?_)
    have lp1 : ∀ (n1 j1 : Nat) (pg_1 : Nat → Int32), j1 + n1 = 55 → (hr_1 : r_X7_undo d pg bk = l_X7_undo_1_r d bk n1 j1 pg_1) → (hZ_1 : s_X7_undo_Z Z d pg bk = l_X7_undo_1_Z Z d bk n1 j1 pg_1) → (hpg_1 : s_X7_undo_pg d pg bk = l_X7_undo_1_pg d bk n1 j1 pg_1) → ∀ (H : Heap) (locs : List Loc) (ls : Array Slot), va_P G.1 vwCl ([(h0, .inr (7, cM (upd (upd (upd Z 10 (nI d)) 0 0) 10 ((nI d) - 1)) q1 q2 q3 q4 q5 q6 q7 q8 q9 q10 q11 sd)), (q4, .inl (G.2.1, 55, .inl pg_1)), (q6, .inl (G.2.1, 770, .inl bk))]) H → va_D A ([(h0, .inr (7, cM (upd (upd (upd Z 10 (nI d)) 0 0) 10 ((nI d) - 1)) q1 q2 q3 q4 q5 q6 q7 q8 q9 q10 q11 sd)), (q4, .inl (G.2.1, 55, .inl pg_1)), (q6, .inl (G.2.1, 770, .inl bk))]) → va_S A s.heap H locs → lv_has ls 2 [(0, .ref h0), (1, .int (nI j1))] → W p l e (kr 0) s m args below meth c H locs 0 0 (MQ below (qI G (fun (r : Int32) (u : ((Nat → Int32) × (Nat → Int32))) => r = r_X7_undo d pg bk ∧ u.1 = s_X7_undo_Z Z d pg bk ∧ u.2 = s_X7_undo_pg d pg bk) (fun u => [(h0, .inr (7, cM u.1 q1 q2 q3 q4 q5 q6 q7 q8 q9 q10 q11 sd)), (q4, .inl (G.2.1, 55, .inl u.2)), (q6, .inl (G.2.1, 770, .inl bk))]) A) args s 0 0 A) (F0 m 27 ls []) := by
      intro n1
      induction n1 with
      | zero =>
        intro j1 pg_1 hj1 hr_1 hZ_1 hpg_1 H8 locs8 ls8 hP8 hD8 hS8 hl8
        refine lv_iload_n hx hb dX7_undo_27 rfl (lv_at hl8 1 rfl) ?_
        refine lv_bipush (v := 55) hx hb dX7_undo_28 (by decide) ?_
        refine lv_icmp_ge (x := nI j1) (y := 55) (tgt := 59) hx hb dX7_undo_30 (by decide) (fun (c2 : 55 ≤ nI j1) => ?_) (fun (c2 : ¬ (55 ≤ nI j1)) => absurd (kle_z rfl hj1) c2)
        refine lv_aload_n hx hb dX7_undo_59 rfl (lv_at hl8 0 rfl) ?_
        refine va_get (ci := 7) (v := .int ((nI d) - 1)) (C := RX7) (T := TX7) (N := 22) hx hb ht inX7 hown hK.1 hP8 0 rfl rfl 10 (by decide) (ht _ q_676) (fun _ h9 => h9) rfl dX7_undo_60 ?_
        have er : r_X7_undo d pg bk = (nI d) - 1 := by rw [hr_1, l_X7_undo_1_r]
        have e0 : s_X7_undo_Z Z d pg bk = upd (upd (upd Z 10 (nI d)) 0 0) 10 ((nI d) - 1) := by rw [hZ_1, l_X7_undo_1_Z]
        have e1 : s_X7_undo_pg d pg bk = pg_1 := by rw [hpg_1, l_X7_undo_1_pg]
        exact k_iret kx hK hP8 hD8 hS8 (u := (upd (upd (upd Z 10 (nI d)) 0 0) 10 ((nI d) - 1), pg_1)) rfl ⟨er.symm, e0.symm, e1.symm⟩ dX7_undo_63
      | succ n1 ih1 =>
        intro j1 pg_1 hj1 hr_1 hZ_1 hpg_1 H8 locs8 ls8 hP8 hD8 hS8 hl8
        refine lv_iload_n hx hb dX7_undo_27 rfl (lv_at hl8 1 rfl) ?_
        refine lv_bipush (v := 55) hx hb dX7_undo_28 (by decide) ?_
        refine lv_icmp_ge (x := nI j1) (y := 55) (tgt := 59) hx hb dX7_undo_30 (by decide) (fun (c3 : 55 ≤ nI j1) => absurd c3 (kle_s rfl hj1 (by decide))) (fun (c3 : ¬ (55 ≤ nI j1)) => ?_)
        refine lv_aload_n hx hb dX7_undo_33 rfl (lv_at hl8 0 rfl) ?_
        refine va_get (ci := 7) (v := .ref q4) (C := RX7) (T := TX7) (N := 22) hx hb ht inX7 hown hK.1 hP8 0 rfl rfl 7 (by decide) (ht _ q_673) (fun _ h9 => h9) rfl dX7_undo_34 ?_
        refine lv_iload_n hx hb dX7_undo_37 rfl (lv_at hl8 1 rfl) ?_
        refine lv_aload_n hx hb dX7_undo_38 rfl (lv_at hl8 0 rfl) ?_
        refine va_get (ci := 7) (v := .ref q6) (C := RX7) (T := TX7) (N := 22) hx hb ht inX7 hown hK.1 hP8 0 rfl rfl 9 (by decide) (ht _ q_675) (fun _ h9 => h9) rfl dX7_undo_39 ?_
        refine lv_bipush (v := 55) hx hb dX7_undo_42 (by decide) ?_
        refine lv_aload_n hx hb dX7_undo_44 rfl (lv_at hl8 0 rfl) ?_
        refine va_get (ci := 7) (v := .int ((nI d) - 1)) (C := RX7) (T := TX7) (N := 22) hx hb ht inX7 hown hK.1 hP8 0 rfl rfl 10 (by decide) (ht _ q_676) (fun _ h9 => h9) rfl dX7_undo_45 ?_
        refine lv_imul hx hb dX7_undo_48 ?_
        refine lv_iload_n hx hb dX7_undo_49 rfl (lv_at hl8 1 rfl) ?_
        refine lv_iadd hx hb dX7_undo_50 ?_
        refine k_iald (v := (bk ((55 * (d - 1)) + j1))) kx hK hP8 2 rfl ((55 * (d - 1)) + j1) (kadd (kmul rfl (ksub rfl rfl (by omega))) rfl) (by omega) (by decide) rfl dX7_undo_51 ?_
        refine k_iast kx hK hP8 hD8 hS8 1 rfl j1 rfl (by omega) (by decide) dX7_undo_52 (fun H9 locs9 hP9 hD9 hS9 => ?_)
        have hP10 : va_P G.1 vwCl ([(h0, .inr (7, cM (upd (upd (upd Z 10 (nI d)) 0 0) 10 ((nI d) - 1)) q1 q2 q3 q4 q5 q6 q7 q8 q9 q10 q11 sd)), (q4, .inl (G.2.1, 55, .inl (upd pg_1 j1 (bk ((55 * (d - 1)) + j1))))), (q6, .inl (G.2.1, 770, .inl bk))]) H9 := hP9
        have hD11 : va_D A ([(h0, .inr (7, cM (upd (upd (upd Z 10 (nI d)) 0 0) 10 ((nI d) - 1)) q1 q2 q3 q4 q5 q6 q7 q8 q9 q10 q11 sd)), (q4, .inl (G.2.1, 55, .inl (upd pg_1 j1 (bk ((55 * (d - 1)) + j1))))), (q6, .inl (G.2.1, 770, .inl bk))]) := hD9
        refine lv_iinc (v := nI (j1 + 1)) (lv' := [(1, .int (nI (j1 + 1))), (0, .ref h0)]) hx hb dX7_undo_53 hl8 (k := 1) rfl (nI_1 j1) (by decide) rfl (fun ls12 hl12 => ?_)
        refine lv_goto (tgt := 27) hx hb dX7_undo_56 (by decide) ?_
        have gr : r_X7_undo d pg bk = l_X7_undo_1_r d bk n1 (j1 + 1) (upd pg_1 j1 (bk ((55 * (d - 1)) + j1))) := by rw [hr_1, l_X7_undo_1_r]
        have gZ : s_X7_undo_Z Z d pg bk = l_X7_undo_1_Z Z d bk n1 (j1 + 1) (upd pg_1 j1 (bk ((55 * (d - 1)) + j1))) := by rw [hZ_1, l_X7_undo_1_Z]
        have gpg : s_X7_undo_pg d pg bk = l_X7_undo_1_pg d bk n1 (j1 + 1) (upd pg_1 j1 (bk ((55 * (d - 1)) + j1))) := by rw [hpg_1, l_X7_undo_1_pg]
        exact ih1 (j1 + 1) (upd pg_1 j1 (bk ((55 * (d - 1)) + j1))) (by omega) gr gZ gpg _ _ _ hP10 hD11 hS9 (lv_sub hl12 [1, 0] rfl)
    have gr : r_X7_undo d pg bk = l_X7_undo_1_r d bk 55 0 pg := by rw [r_X7_undo, if_neg c1]
    have gZ : s_X7_undo_Z Z d pg bk = l_X7_undo_1_Z Z d bk 55 0 pg := by rw [s_X7_undo_Z, if_neg c1]
    have gpg : s_X7_undo_pg d pg bk = l_X7_undo_1_pg d bk 55 0 pg := by rw [s_X7_undo_pg, if_neg c1]
    exact lp1 55 0 pg (by omega) gr gZ gpg _ _ _ hP5 hD6 hS4 (lv_sub hl7 [1, 0] rfl)
  · skip
    refine lv_bipush (v := (-3)) hx hb dX7_undo_12 (by decide) ?_
    have er : r_X7_undo d pg bk = (-3) := by rw [r_X7_undo, if_pos c1]
    have e0 : s_X7_undo_Z Z d pg bk = upd (upd Z 10 (nI d)) 0 0 := by rw [s_X7_undo_Z, if_pos c1]
    have e1 : s_X7_undo_pg d pg bk = pg := by rw [s_X7_undo_pg, if_pos c1]
    exact k_iret kx hK hP2 hD3 hS1 (u := (upd (upd Z 10 (nI d)) 0 0, pg)) rfl ⟨er.symm, e0.symm, e1.symm⟩ dX7_undo_14

def r_X7_ahead (Z : Nat → Int32) (pg : Nat → Int32) (tr : Nat → Int32) (p0 : Int32) (p1 : Int32) : Int32 := if (r_X7_in p0.toInt64 0 99) = 0 then (-2) else if (r_X7_in p1.toInt64 0 3) = 0 then (-2) else if 2 ≤ p1 then (if p1 = 2 then ((s_X7_goFor_f (upd (upd (upd (upd Z 0 0) 18 (-9)) 20 0) 21 6) (s_X7_lay_t pg tr) p0) 53) else (s_X7_goFor_f (upd (upd (upd (upd Z 0 0) 18 (-9)) 20 0) 21 6) (s_X7_lay_t pg tr) p0) 54) else (s_X7_goFor_f (upd (upd (upd (upd Z 0 0) 18 (-9)) 20 0) 21 6) (s_X7_lay_t pg tr) p0) ((16 * p1.toNatClampNeg) + 5)
def s_X7_ahead_Z (Z : Nat → Int32) (pg : Nat → Int32) (tr : Nat → Int32) (p0 : Int32) (p1 : Int32) : Nat → Int32 := if (r_X7_in p0.toInt64 0 99) = 0 then (upd Z 0 0) else if (r_X7_in p1.toInt64 0 3) = 0 then (upd Z 0 0) else if 2 ≤ p1 then (if p1 = 2 then (s_X7_goFor_Z (upd (upd (upd (upd Z 0 0) 18 (-9)) 20 0) 21 6) (s_X7_lay_t pg tr) p0) else s_X7_goFor_Z (upd (upd (upd (upd Z 0 0) 18 (-9)) 20 0) 21 6) (s_X7_lay_t pg tr) p0) else s_X7_goFor_Z (upd (upd (upd (upd Z 0 0) 18 (-9)) 20 0) 21 6) (s_X7_lay_t pg tr) p0
def s_X7_ahead_tr (Z : Nat → Int32) (pg : Nat → Int32) (tr : Nat → Int32) (p0 : Int32) (p1 : Int32) : Nat → Int32 := if (r_X7_in p0.toInt64 0 99) = 0 then tr else if (r_X7_in p1.toInt64 0 3) = 0 then tr else if 2 ≤ p1 then (if p1 = 2 then (s_X7_goFor_f (upd (upd (upd (upd Z 0 0) 18 (-9)) 20 0) 21 6) (s_X7_lay_t pg tr) p0) else s_X7_goFor_f (upd (upd (upd (upd Z 0 0) 18 (-9)) 20 0) 21 6) (s_X7_lay_t pg tr) p0) else s_X7_goFor_f (upd (upd (upd (upd Z 0 0) 18 (-9)) 20 0) 21 6) (s_X7_lay_t pg tr) p0
set_option maxHeartbeats 4000000 in
set_option maxRecDepth 100000 in
theorem c_X7_ahead (l : Launch) (G : kG) (Z : Nat → Int32) (sd : Int64) (h0 : Nat) (q1 : Nat) (q2 : Nat) (q3 : Nat) (q4 : Nat) (q5 : Nat) (q6 : Nat) (q7 : Nat) (q8 : Nat) (q9 : Nat) (q10 : Nat) (q11 : Nat) (pg : Nat → Int32) (tr : Nat → Int32) (p0 : Int32) (p1 : Int32) : cG l G yX7_ahead cX7_ahead 3 (some .int) 6 [.ref h0, .int p0, .int p1] ([(h0, .inr (7, cM Z q1 q2 q3 q4 q5 q6 q7 q8 q9 q10 q11 sd)), (q4, .inl (G.2.1, 55, .inl pg)), (q5, .inl (G.2.1, 55, .inl tr))]) (qI G (fun (r : Int32) (u : ((Nat → Int32) × (Nat → Int32))) => r = r_X7_ahead Z pg tr p0 p1 ∧ u.1 = s_X7_ahead_Z Z pg tr p0 p1 ∧ u.2 = s_X7_ahead_tr Z pg tr p0 p1) (fun u => [(h0, .inr (7, cM u.1 q1 q2 q3 q4 q5 q6 q7 q8 q9 q10 q11 sd)), (q4, .inl (G.2.1, 55, .inl pg)), (q5, .inl (G.2.1, 55, .inl u.2))])) := by
  refine kintro (by decide) (Nat.le_of_ble_eq_true rfl) ?_
  intro p e s m args below meth c A ls kx hK hP hD hS hA hl
  have kx : kX p s m args meth c cX7_ahead 3 (some .int) RX7 := kx
  have hx := kx.1
  have hb := kx.2.1
  have hown := kx.2.2.2.2.1
  have ht := kx.2.2.2.2.2.2
  have hl : lv_has ls 3 [(0, .ref h0), (1, .int p0), (2, .int p1)] := hl
  refine lv_aload_n hx hb dX7_ahead_0 rfl (lv_at hl 0 rfl) ?_
  refine lv_iconst (v := 0) hx hb dX7_ahead_1 (by decide) ?_
  refine va_put (ci := 7) (v := .int 0) (ty := .int) (C := RX7) (T := TX7) (N := 22) hx hb ht inX7 tyX7 tyX7_ok nmX7 hown hK.1 hP hD hS 0 rfl rfl 0 (by decide) (ht _ q_666) (fun _ h9 => h9) rfl (by decide +kernel) rfl rfl (Nat.le_of_ble_eq_true rfl) dX7_ahead_2 (fun H1 locs1 hP1 hD1 hS1 => ?_)
  have hP2 : va_P G.1 vwCl ([(h0, .inr (7, cM (upd Z 0 0) q1 q2 q3 q4 q5 q6 q7 q8 q9 q10 q11 sd)), (q4, .inl (G.2.1, 55, .inl pg)), (q5, .inl (G.2.1, 55, .inl tr))]) H1 := hP1
  have hD3 : va_D A ([(h0, .inr (7, cM (upd Z 0 0) q1 q2 q3 q4 q5 q6 q7 q8 q9 q10 q11 sd)), (q4, .inl (G.2.1, 55, .inl pg)), (q5, .inl (G.2.1, 55, .inl tr))]) := hD1
  refine lv_iload_n hx hb dX7_ahead_5 rfl (lv_at hl 1 rfl) ?_
  refine lv_i2l (v := p0.toInt64) hx hb dX7_ahead_6 rfl ?_
  refine lv_lconst (v := 0) hx hb dX7_ahead_7 (by decide) ?_
  refine lv_ldc2 (v := 99) hx hb hown (ht _ q_897) dX7_ahead_8 ?_
  refine k_calli (kRunS (As := [.long p0.toInt64, .long 0, .long 99]) (rest := []) kx (c_X7_in l G p0.toInt64 0 99) q_740 q_738 q_36 q_739 nX7_in ⟨Nat.le_of_ble_eq_true rfl, Nat.le_of_ble_eq_true rfl⟩ hK hP2 hD3 (kCtx_nil _) rfl hl.1 (Nat.le_of_ble_eq_true rfl) dX7_ahead_11 ⟨Nat.zero_le _, Nat.zero_le _⟩) hP2 hD3 hS1 hA (kCtx_nil _) (fun _ => rfl) (fun r1 _ H4 locs4 hw hP4 hD4 hS4 => ?_)
  have hr1 : r_X7_in p0.toInt64 0 99 = r1 := (show r1 = r_X7_in p0.toInt64 0 99 from hw).symm
  have hP5 : va_P G.1 vwCl ([(h0, .inr (7, cM (upd Z 0 0) q1 q2 q3 q4 q5 q6 q7 q8 q9 q10 q11 sd)), (q4, .inl (G.2.1, 55, .inl pg)), (q5, .inl (G.2.1, 55, .inl tr))]) H4 := hP4
  have hD6 : va_D A ([(h0, .inr (7, cM (upd Z 0 0) q1 q2 q3 q4 q5 q6 q7 q8 q9 q10 q11 sd)), (q4, .inl (G.2.1, 55, .inl pg)), (q5, .inl (G.2.1, 55, .inl tr))]) := hD4
  refine lv_if_eq (x := r1) (tgt := 29) hx hb dX7_ahead_14 (by decide) (fun (c2 : r1 = 0) => ?_) (fun (c2 : ¬ (r1 = 0)) => ?_)
  · skip
    refine lv_bipush (v := (-2)) hx hb dX7_ahead_29 (by decide) ?_
    have er : r_X7_ahead Z pg tr p0 p1 = (-2) := by rw [r_X7_ahead]; (try rw [hr1]); rw [if_pos c2]
    have e0 : s_X7_ahead_Z Z pg tr p0 p1 = upd Z 0 0 := by rw [s_X7_ahead_Z]; (try rw [hr1]); rw [if_pos c2]
    have e1 : s_X7_ahead_tr Z pg tr p0 p1 = tr := by rw [s_X7_ahead_tr]; (try rw [hr1]); rw [if_pos c2]
    exact k_iret kx hK hP5 hD6 hS4 (u := (upd Z 0 0, tr)) rfl ⟨er.symm, e0.symm, e1.symm⟩ dX7_ahead_31
  · skip
    obtain ⟨nnc2, nmc2⟩ := kin_of (x := p0) (a := 0) (N := 99) (by rw [hr1]; exact c2) (by decide) (by decide)
    refine lv_iload_n hx hb dX7_ahead_17 rfl (lv_at hl 2 rfl) ?_
    refine lv_i2l (v := p1.toInt64) hx hb dX7_ahead_18 rfl ?_
    refine lv_lconst (v := 0) hx hb dX7_ahead_19 (by decide) ?_
    refine lv_ldc2 (v := 3) hx hb hown (ht _ q_898) dX7_ahead_20 ?_
    refine k_calli (kRunS (As := [.long p1.toInt64, .long 0, .long 3]) (rest := []) kx (c_X7_in l G p1.toInt64 0 3) q_740 q_738 q_36 q_739 nX7_in ⟨Nat.le_of_ble_eq_true rfl, Nat.le_of_ble_eq_true rfl⟩ hK hP5 hD6 (kCtx_nil _) rfl hl.1 (Nat.le_of_ble_eq_true rfl) dX7_ahead_23 ⟨Nat.zero_le _, Nat.zero_le _⟩) hP5 hD6 hS4 hA (kCtx_nil _) (fun _ => rfl) (fun r3 _ H7 locs7 hw hP7 hD7 hS7 => ?_)
    have hr3 : r_X7_in p1.toInt64 0 3 = r3 := (show r3 = r_X7_in p1.toInt64 0 3 from hw).symm
    have hP8 : va_P G.1 vwCl ([(h0, .inr (7, cM (upd Z 0 0) q1 q2 q3 q4 q5 q6 q7 q8 q9 q10 q11 sd)), (q4, .inl (G.2.1, 55, .inl pg)), (q5, .inl (G.2.1, 55, .inl tr))]) H7 := hP7
    have hD9 : va_D A ([(h0, .inr (7, cM (upd Z 0 0) q1 q2 q3 q4 q5 q6 q7 q8 q9 q10 q11 sd)), (q4, .inl (G.2.1, 55, .inl pg)), (q5, .inl (G.2.1, 55, .inl tr))]) := hD7
    refine lv_if_ne (x := r3) (tgt := 32) hx hb dX7_ahead_26 (by decide) (fun (c4 : ¬ (r3 = 0)) => ?_) (fun (c4 : r3 = 0) => ?_)
    · skip
      obtain ⟨nnc4, nmc4⟩ := kin_of (x := p1) (a := 0) (N := 3) (by rw [hr3]; exact c4) (by decide) (by decide)
      refine lv_aload_n hx hb dX7_ahead_32 rfl (lv_at hl 0 rfl) ?_
      refine k_callv (kRunV (As := []) (rest := []) kx (c_X7_layTrial l G (upd Z 0 0) sd h0 q1 q2 q3 q4 q5 q6 q7 q8 q9 q10 q11 pg tr) q_774 q_771 q_36 q_773 q_16 nX7_layTrial ⟨Nat.le_of_ble_eq_true rfl, Nat.le_of_ble_eq_true rfl⟩ hK hP8 hD9 (kCtx_all _) 0 7 rfl rfl rfl rfl hl.1 (Nat.le_of_ble_eq_true rfl) dX7_ahead_33 ⟨Nat.zero_le _, Nat.zero_le _⟩) hP8 hD9 hS7 hA (kCtx_all _) (fun _ => rfl) (fun _ H10 locs10 hw hP10 hD10 hS10 => ?_)
      have hP11 : va_P G.1 vwCl ([(h0, .inr (7, cM (upd (upd (upd (upd Z 0 0) 18 (-9)) 20 0) 21 6) q1 q2 q3 q4 q5 q6 q7 q8 q9 q10 q11 sd)), (q4, .inl (G.2.1, 55, .inl pg)), (q5, .inl (G.2.1, 55, .inl (s_X7_lay_t pg tr)))]) H10 := hP10
      have hD12 : va_D A ([(h0, .inr (7, cM (upd (upd (upd (upd Z 0 0) 18 (-9)) 20 0) 21 6) q1 q2 q3 q4 q5 q6 q7 q8 q9 q10 q11 sd)), (q4, .inl (G.2.1, 55, .inl pg)), (q5, .inl (G.2.1, 55, .inl (s_X7_lay_t pg tr)))]) := hD10
      refine lv_aload_n hx hb dX7_ahead_36 rfl (lv_at hl 0 rfl) ?_
      refine lv_aload_n hx hb dX7_ahead_37 rfl (lv_at hl 0 rfl) ?_
      refine va_get (ci := 7) (v := .ref q5) (C := RX7) (T := TX7) (N := 22) hx hb ht inX7 hown hK.1 hP11 0 rfl rfl 8 (by decide) (ht _ q_674) (fun _ h9 => h9) rfl dX7_ahead_38 ?_
      refine lv_iload_n hx hb dX7_ahead_41 rfl (lv_at hl 1 rfl) ?_
      refine k_callv (kRunV (As := [.ref q5, .int p0]) (rest := []) kx (c_X7_goFor l G (upd (upd (upd (upd Z 0 0) 18 (-9)) 20 0) 21 6) sd h0 q1 q2 q3 q4 q5 q6 q7 q8 q9 q10 q11 (s_X7_lay_t pg tr) q5 p0) q_778 q_775 q_36 q_777 q_17 nX7_goFor ⟨Nat.le_of_ble_eq_true rfl, Nat.le_of_ble_eq_true rfl⟩ hK hP11 hD12 (kCtx_places _ _ [0, 2] rfl rfl) 0 7 rfl rfl rfl rfl hl.1 (Nat.le_of_ble_eq_true rfl) dX7_ahead_42 ⟨Nat.zero_le _, Nat.zero_le _⟩) hP11 hD12 hS10 hA (kCtx_places _ _ [0, 2] rfl rfl) (fun _ => rfl) (fun u H13 locs13 hw hP13 hD13 hS13 => ?_)
      obtain ⟨F7, F8⟩ := u
      obtain ⟨hF7, hF8⟩ := hw
      have hF7 : s_X7_goFor_Z (upd (upd (upd (upd Z 0 0) 18 (-9)) 20 0) 21 6) (s_X7_lay_t pg tr) p0 = F7 := (show F7 = s_X7_goFor_Z (upd (upd (upd (upd Z 0 0) 18 (-9)) 20 0) 21 6) (s_X7_lay_t pg tr) p0 from hF7).symm
      have hF8 : s_X7_goFor_f (upd (upd (upd (upd Z 0 0) 18 (-9)) 20 0) 21 6) (s_X7_lay_t pg tr) p0 = F8 := (show F8 = s_X7_goFor_f (upd (upd (upd (upd Z 0 0) 18 (-9)) 20 0) 21 6) (s_X7_lay_t pg tr) p0 from hF8).symm
      have hP14 : va_P G.1 vwCl ([(h0, .inr (7, cM F7 q1 q2 q3 q4 q5 q6 q7 q8 q9 q10 q11 sd)), (q4, .inl (G.2.1, 55, .inl pg)), (q5, .inl (G.2.1, 55, .inl F8))]) H13 := hP13
      have hD15 : va_D A ([(h0, .inr (7, cM F7 q1 q2 q3 q4 q5 q6 q7 q8 q9 q10 q11 sd)), (q4, .inl (G.2.1, 55, .inl pg)), (q5, .inl (G.2.1, 55, .inl F8))]) := hD13
      refine lv_iload_n hx hb dX7_ahead_45 rfl (lv_at hl 2 rfl) ?_
      refine lv_iconst (v := 2) hx hb dX7_ahead_46 (by decide) ?_
      refine lv_icmp_ge (x := p1) (y := 2) (tgt := 64) hx hb dX7_ahead_47 (by decide) (fun (c9 : 2 ≤ p1) => ?_) (fun (c9 : ¬ (2 ≤ p1)) => ?_)
      · skip
        refine lv_iload_n hx hb dX7_ahead_64 rfl (lv_at hl 2 rfl) ?_
        refine lv_iconst (v := 2) hx hb dX7_ahead_65 (by decide) ?_
        refine lv_icmp_ne (x := p1) (y := 2) (tgt := 79) hx hb dX7_ahead_66 (by decide) (fun (c10 : ¬ (p1 = 2)) => ?_) (fun (c10 : p1 = 2) => ?_)
        · skip
          refine lv_aload_n hx hb dX7_ahead_79 rfl (lv_at hl 0 rfl) ?_
          refine va_get (ci := 7) (v := .ref q5) (C := RX7) (T := TX7) (N := 22) hx hb ht inX7 hown hK.1 hP14 0 rfl rfl 8 (by decide) (ht _ q_674) (fun _ h9 => h9) rfl dX7_ahead_80 ?_
          refine lv_bipush (v := 54) hx hb dX7_ahead_83 (by decide) ?_
          refine k_iald (v := (F8 54)) kx hK hP14 2 rfl 54 rfl (by decide) (by decide) rfl dX7_ahead_85 ?_
          have er : r_X7_ahead Z pg tr p0 p1 = F8 54 := by rw [r_X7_ahead]; (try rw [hr1]); (try rw [hr3]); (try rw [hF7]); (try rw [hF8]); rw [if_neg c2, if_neg c4, if_pos c9, if_neg c10]
          have e0 : s_X7_ahead_Z Z pg tr p0 p1 = F7 := by rw [s_X7_ahead_Z]; (try rw [hr1]); (try rw [hr3]); (try rw [hF7]); (try rw [hF8]); rw [if_neg c2, if_neg c4, if_pos c9, if_neg c10]
          have e1 : s_X7_ahead_tr Z pg tr p0 p1 = F8 := by rw [s_X7_ahead_tr]; (try rw [hr1]); (try rw [hr3]); (try rw [hF7]); (try rw [hF8]); rw [if_neg c2, if_neg c4, if_pos c9, if_neg c10]
          exact k_iret kx hK hP14 hD15 hS13 (u := (F7, F8)) rfl ⟨er.symm, e0.symm, e1.symm⟩ dX7_ahead_86
        · skip
          refine lv_aload_n hx hb dX7_ahead_69 rfl (lv_at hl 0 rfl) ?_
          refine va_get (ci := 7) (v := .ref q5) (C := RX7) (T := TX7) (N := 22) hx hb ht inX7 hown hK.1 hP14 0 rfl rfl 8 (by decide) (ht _ q_674) (fun _ h9 => h9) rfl dX7_ahead_70 ?_
          refine lv_bipush (v := 53) hx hb dX7_ahead_73 (by decide) ?_
          refine k_iald (v := (F8 53)) kx hK hP14 2 rfl 53 rfl (by decide) (by decide) rfl dX7_ahead_75 ?_
          refine lv_goto (tgt := 86) hx hb dX7_ahead_76 (by decide) ?_
          have er : r_X7_ahead Z pg tr p0 p1 = F8 53 := by rw [r_X7_ahead]; (try rw [hr1]); (try rw [hr3]); (try rw [hF7]); (try rw [hF8]); rw [if_neg c2, if_neg c4, if_pos c9, if_pos c10]
          have e0 : s_X7_ahead_Z Z pg tr p0 p1 = F7 := by rw [s_X7_ahead_Z]; (try rw [hr1]); (try rw [hr3]); (try rw [hF7]); (try rw [hF8]); rw [if_neg c2, if_neg c4, if_pos c9, if_pos c10]
          have e1 : s_X7_ahead_tr Z pg tr p0 p1 = F8 := by rw [s_X7_ahead_tr]; (try rw [hr1]); (try rw [hr3]); (try rw [hF7]); (try rw [hF8]); rw [if_neg c2, if_neg c4, if_pos c9, if_pos c10]
          exact k_iret kx hK hP14 hD15 hS13 (u := (F7, F8)) rfl ⟨er.symm, e0.symm, e1.symm⟩ dX7_ahead_86
      · skip
        refine lv_aload_n hx hb dX7_ahead_50 rfl (lv_at hl 0 rfl) ?_
        refine va_get (ci := 7) (v := .ref q5) (C := RX7) (T := TX7) (N := 22) hx hb ht inX7 hown hK.1 hP14 0 rfl rfl 8 (by decide) (ht _ q_674) (fun _ h9 => h9) rfl dX7_ahead_51 ?_
        refine lv_bipush (v := 16) hx hb dX7_ahead_54 (by decide) ?_
        refine lv_iload_n hx hb dX7_ahead_56 rfl (lv_at hl 2 rfl) ?_
        refine lv_imul hx hb dX7_ahead_57 ?_
        refine lv_iconst (v := 5) hx hb dX7_ahead_58 (by decide) ?_
        refine lv_iadd hx hb dX7_ahead_59 ?_
        refine k_iald (v := (F8 ((16 * p1.toNatClampNeg) + 5))) kx hK hP14 2 rfl ((16 * p1.toNatClampNeg) + 5) (kadd (kmul rfl nnc4) rfl) (by omega) (by decide) rfl dX7_ahead_60 ?_
        refine lv_goto (tgt := 86) hx hb dX7_ahead_61 (by decide) ?_
        have er : r_X7_ahead Z pg tr p0 p1 = F8 ((16 * p1.toNatClampNeg) + 5) := by rw [r_X7_ahead]; (try rw [hr1]); (try rw [hr3]); (try rw [hF7]); (try rw [hF8]); rw [if_neg c2, if_neg c4, if_neg c9]
        have e0 : s_X7_ahead_Z Z pg tr p0 p1 = F7 := by rw [s_X7_ahead_Z]; (try rw [hr1]); (try rw [hr3]); (try rw [hF7]); (try rw [hF8]); rw [if_neg c2, if_neg c4, if_neg c9]
        have e1 : s_X7_ahead_tr Z pg tr p0 p1 = F8 := by rw [s_X7_ahead_tr]; (try rw [hr1]); (try rw [hr3]); (try rw [hF7]); (try rw [hF8]); rw [if_neg c2, if_neg c4, if_neg c9]
        exact k_iret kx hK hP14 hD15 hS13 (u := (F7, F8)) rfl ⟨er.symm, e0.symm, e1.symm⟩ dX7_ahead_86
    · skip
      refine lv_bipush (v := (-2)) hx hb dX7_ahead_29 (by decide) ?_
      have er : r_X7_ahead Z pg tr p0 p1 = (-2) := by rw [r_X7_ahead]; (try rw [hr1]); (try rw [hr3]); rw [if_neg c2, if_pos c4]
      have e0 : s_X7_ahead_Z Z pg tr p0 p1 = upd Z 0 0 := by rw [s_X7_ahead_Z]; (try rw [hr1]); (try rw [hr3]); rw [if_neg c2, if_pos c4]
      have e1 : s_X7_ahead_tr Z pg tr p0 p1 = tr := by rw [s_X7_ahead_tr]; (try rw [hr1]); (try rw [hr3]); rw [if_neg c2, if_pos c4]
      exact k_iret kx hK hP8 hD9 hS7 (u := (upd Z 0 0, tr)) rfl ⟨er.symm, e0.symm, e1.symm⟩ dX7_ahead_31

def r_X7_letters (Z : Nat → Int32) (pg : Nat → Int32) (tr : Nat → Int32) (p0 : Int32) : Int32 := if (r_X7_in p0.toInt64 0 99) = 0 then (-2) else ((s_X7_goFor_f (upd (upd (upd (upd Z 0 0) 18 (-9)) 20 0) 21 6) (s_X7_lay_t pg tr) p0) 53) - (pg 53)
def s_X7_letters_Z (Z : Nat → Int32) (pg : Nat → Int32) (tr : Nat → Int32) (p0 : Int32) : Nat → Int32 := if (r_X7_in p0.toInt64 0 99) = 0 then (upd Z 0 0) else s_X7_goFor_Z (upd (upd (upd (upd Z 0 0) 18 (-9)) 20 0) 21 6) (s_X7_lay_t pg tr) p0
def s_X7_letters_tr (Z : Nat → Int32) (pg : Nat → Int32) (tr : Nat → Int32) (p0 : Int32) : Nat → Int32 := if (r_X7_in p0.toInt64 0 99) = 0 then tr else s_X7_goFor_f (upd (upd (upd (upd Z 0 0) 18 (-9)) 20 0) 21 6) (s_X7_lay_t pg tr) p0
set_option maxHeartbeats 4000000 in
set_option maxRecDepth 100000 in
theorem c_X7_letters (l : Launch) (G : kG) (Z : Nat → Int32) (sd : Int64) (h0 : Nat) (q1 : Nat) (q2 : Nat) (q3 : Nat) (q4 : Nat) (q5 : Nat) (q6 : Nat) (q7 : Nat) (q8 : Nat) (q9 : Nat) (q10 : Nat) (q11 : Nat) (pg : Nat → Int32) (tr : Nat → Int32) (p0 : Int32) : cG l G yX7_letters cX7_letters 2 (some .int) 6 [.ref h0, .int p0] ([(h0, .inr (7, cM Z q1 q2 q3 q4 q5 q6 q7 q8 q9 q10 q11 sd)), (q4, .inl (G.2.1, 55, .inl pg)), (q5, .inl (G.2.1, 55, .inl tr))]) (qI G (fun (r : Int32) (u : ((Nat → Int32) × (Nat → Int32))) => r = r_X7_letters Z pg tr p0 ∧ u.1 = s_X7_letters_Z Z pg tr p0 ∧ u.2 = s_X7_letters_tr Z pg tr p0) (fun u => [(h0, .inr (7, cM u.1 q1 q2 q3 q4 q5 q6 q7 q8 q9 q10 q11 sd)), (q4, .inl (G.2.1, 55, .inl pg)), (q5, .inl (G.2.1, 55, .inl u.2))])) := by
  refine kintro (by decide) (Nat.le_of_ble_eq_true rfl) ?_
  intro p e s m args below meth c A ls kx hK hP hD hS hA hl
  have kx : kX p s m args meth c cX7_letters 2 (some .int) RX7 := kx
  have hx := kx.1
  have hb := kx.2.1
  have hown := kx.2.2.2.2.1
  have ht := kx.2.2.2.2.2.2
  have hl : lv_has ls 2 [(0, .ref h0), (1, .int p0)] := hl
  refine lv_aload_n hx hb dX7_letters_0 rfl (lv_at hl 0 rfl) ?_
  refine lv_iconst (v := 0) hx hb dX7_letters_1 (by decide) ?_
  refine va_put (ci := 7) (v := .int 0) (ty := .int) (C := RX7) (T := TX7) (N := 22) hx hb ht inX7 tyX7 tyX7_ok nmX7 hown hK.1 hP hD hS 0 rfl rfl 0 (by decide) (ht _ q_666) (fun _ h9 => h9) rfl (by decide +kernel) rfl rfl (Nat.le_of_ble_eq_true rfl) dX7_letters_2 (fun H1 locs1 hP1 hD1 hS1 => ?_)
  have hP2 : va_P G.1 vwCl ([(h0, .inr (7, cM (upd Z 0 0) q1 q2 q3 q4 q5 q6 q7 q8 q9 q10 q11 sd)), (q4, .inl (G.2.1, 55, .inl pg)), (q5, .inl (G.2.1, 55, .inl tr))]) H1 := hP1
  have hD3 : va_D A ([(h0, .inr (7, cM (upd Z 0 0) q1 q2 q3 q4 q5 q6 q7 q8 q9 q10 q11 sd)), (q4, .inl (G.2.1, 55, .inl pg)), (q5, .inl (G.2.1, 55, .inl tr))]) := hD1
  refine lv_iload_n hx hb dX7_letters_5 rfl (lv_at hl 1 rfl) ?_
  refine lv_i2l (v := p0.toInt64) hx hb dX7_letters_6 rfl ?_
  refine lv_lconst (v := 0) hx hb dX7_letters_7 (by decide) ?_
  refine lv_ldc2 (v := 99) hx hb hown (ht _ q_897) dX7_letters_8 ?_
  refine k_calli (kRunS (As := [.long p0.toInt64, .long 0, .long 99]) (rest := []) kx (c_X7_in l G p0.toInt64 0 99) q_740 q_738 q_36 q_739 nX7_in ⟨Nat.le_of_ble_eq_true rfl, Nat.le_of_ble_eq_true rfl⟩ hK hP2 hD3 (kCtx_nil _) rfl hl.1 (Nat.le_of_ble_eq_true rfl) dX7_letters_11 ⟨Nat.zero_le _, Nat.zero_le _⟩) hP2 hD3 hS1 hA (kCtx_nil _) (fun _ => rfl) (fun r1 _ H4 locs4 hw hP4 hD4 hS4 => ?_)
  have hr1 : r_X7_in p0.toInt64 0 99 = r1 := (show r1 = r_X7_in p0.toInt64 0 99 from hw).symm
  have hP5 : va_P G.1 vwCl ([(h0, .inr (7, cM (upd Z 0 0) q1 q2 q3 q4 q5 q6 q7 q8 q9 q10 q11 sd)), (q4, .inl (G.2.1, 55, .inl pg)), (q5, .inl (G.2.1, 55, .inl tr))]) H4 := hP4
  have hD6 : va_D A ([(h0, .inr (7, cM (upd Z 0 0) q1 q2 q3 q4 q5 q6 q7 q8 q9 q10 q11 sd)), (q4, .inl (G.2.1, 55, .inl pg)), (q5, .inl (G.2.1, 55, .inl tr))]) := hD4
  refine lv_if_ne (x := r1) (tgt := 20) hx hb dX7_letters_14 (by decide) (fun (c2 : ¬ (r1 = 0)) => ?_) (fun (c2 : r1 = 0) => ?_)
  · skip
    obtain ⟨nnc2, nmc2⟩ := kin_of (x := p0) (a := 0) (N := 99) (by rw [hr1]; exact c2) (by decide) (by decide)
    refine lv_aload_n hx hb dX7_letters_20 rfl (lv_at hl 0 rfl) ?_
    refine k_callv (kRunV (As := []) (rest := []) kx (c_X7_layTrial l G (upd Z 0 0) sd h0 q1 q2 q3 q4 q5 q6 q7 q8 q9 q10 q11 pg tr) q_774 q_771 q_36 q_773 q_16 nX7_layTrial ⟨Nat.le_of_ble_eq_true rfl, Nat.le_of_ble_eq_true rfl⟩ hK hP5 hD6 (kCtx_all _) 0 7 rfl rfl rfl rfl hl.1 (Nat.le_of_ble_eq_true rfl) dX7_letters_21 ⟨Nat.zero_le _, Nat.zero_le _⟩) hP5 hD6 hS4 hA (kCtx_all _) (fun _ => rfl) (fun _ H7 locs7 hw hP7 hD7 hS7 => ?_)
    have hP8 : va_P G.1 vwCl ([(h0, .inr (7, cM (upd (upd (upd (upd Z 0 0) 18 (-9)) 20 0) 21 6) q1 q2 q3 q4 q5 q6 q7 q8 q9 q10 q11 sd)), (q4, .inl (G.2.1, 55, .inl pg)), (q5, .inl (G.2.1, 55, .inl (s_X7_lay_t pg tr)))]) H7 := hP7
    have hD9 : va_D A ([(h0, .inr (7, cM (upd (upd (upd (upd Z 0 0) 18 (-9)) 20 0) 21 6) q1 q2 q3 q4 q5 q6 q7 q8 q9 q10 q11 sd)), (q4, .inl (G.2.1, 55, .inl pg)), (q5, .inl (G.2.1, 55, .inl (s_X7_lay_t pg tr)))]) := hD7
    refine lv_aload_n hx hb dX7_letters_24 rfl (lv_at hl 0 rfl) ?_
    refine lv_aload_n hx hb dX7_letters_25 rfl (lv_at hl 0 rfl) ?_
    refine va_get (ci := 7) (v := .ref q5) (C := RX7) (T := TX7) (N := 22) hx hb ht inX7 hown hK.1 hP8 0 rfl rfl 8 (by decide) (ht _ q_674) (fun _ h9 => h9) rfl dX7_letters_26 ?_
    refine lv_iload_n hx hb dX7_letters_29 rfl (lv_at hl 1 rfl) ?_
    refine k_callv (kRunV (As := [.ref q5, .int p0]) (rest := []) kx (c_X7_goFor l G (upd (upd (upd (upd Z 0 0) 18 (-9)) 20 0) 21 6) sd h0 q1 q2 q3 q4 q5 q6 q7 q8 q9 q10 q11 (s_X7_lay_t pg tr) q5 p0) q_778 q_775 q_36 q_777 q_17 nX7_goFor ⟨Nat.le_of_ble_eq_true rfl, Nat.le_of_ble_eq_true rfl⟩ hK hP8 hD9 (kCtx_places _ _ [0, 2] rfl rfl) 0 7 rfl rfl rfl rfl hl.1 (Nat.le_of_ble_eq_true rfl) dX7_letters_30 ⟨Nat.zero_le _, Nat.zero_le _⟩) hP8 hD9 hS7 hA (kCtx_places _ _ [0, 2] rfl rfl) (fun _ => rfl) (fun u H10 locs10 hw hP10 hD10 hS10 => ?_)
    obtain ⟨F5, F6⟩ := u
    obtain ⟨hF5, hF6⟩ := hw
    have hF5 : s_X7_goFor_Z (upd (upd (upd (upd Z 0 0) 18 (-9)) 20 0) 21 6) (s_X7_lay_t pg tr) p0 = F5 := (show F5 = s_X7_goFor_Z (upd (upd (upd (upd Z 0 0) 18 (-9)) 20 0) 21 6) (s_X7_lay_t pg tr) p0 from hF5).symm
    have hF6 : s_X7_goFor_f (upd (upd (upd (upd Z 0 0) 18 (-9)) 20 0) 21 6) (s_X7_lay_t pg tr) p0 = F6 := (show F6 = s_X7_goFor_f (upd (upd (upd (upd Z 0 0) 18 (-9)) 20 0) 21 6) (s_X7_lay_t pg tr) p0 from hF6).symm
    have hP11 : va_P G.1 vwCl ([(h0, .inr (7, cM F5 q1 q2 q3 q4 q5 q6 q7 q8 q9 q10 q11 sd)), (q4, .inl (G.2.1, 55, .inl pg)), (q5, .inl (G.2.1, 55, .inl F6))]) H10 := hP10
    have hD12 : va_D A ([(h0, .inr (7, cM F5 q1 q2 q3 q4 q5 q6 q7 q8 q9 q10 q11 sd)), (q4, .inl (G.2.1, 55, .inl pg)), (q5, .inl (G.2.1, 55, .inl F6))]) := hD10
    refine lv_aload_n hx hb dX7_letters_33 rfl (lv_at hl 0 rfl) ?_
    refine va_get (ci := 7) (v := .ref q5) (C := RX7) (T := TX7) (N := 22) hx hb ht inX7 hown hK.1 hP11 0 rfl rfl 8 (by decide) (ht _ q_674) (fun _ h9 => h9) rfl dX7_letters_34 ?_
    refine lv_bipush (v := 53) hx hb dX7_letters_37 (by decide) ?_
    refine k_iald (v := (F6 53)) kx hK hP11 2 rfl 53 rfl (by decide) (by decide) rfl dX7_letters_39 ?_
    refine lv_aload_n hx hb dX7_letters_40 rfl (lv_at hl 0 rfl) ?_
    refine va_get (ci := 7) (v := .ref q4) (C := RX7) (T := TX7) (N := 22) hx hb ht inX7 hown hK.1 hP11 0 rfl rfl 7 (by decide) (ht _ q_673) (fun _ h9 => h9) rfl dX7_letters_41 ?_
    refine lv_bipush (v := 53) hx hb dX7_letters_44 (by decide) ?_
    refine k_iald (v := (pg 53)) kx hK hP11 1 rfl 53 rfl (by decide) (by decide) rfl dX7_letters_46 ?_
    refine lv_isub hx hb dX7_letters_47 ?_
    have er : r_X7_letters Z pg tr p0 = (F6 53) - (pg 53) := by rw [r_X7_letters]; (try rw [hr1]); (try rw [hF5]); (try rw [hF6]); rw [if_neg c2]
    have e0 : s_X7_letters_Z Z pg tr p0 = F5 := by rw [s_X7_letters_Z]; (try rw [hr1]); (try rw [hF5]); (try rw [hF6]); rw [if_neg c2]
    have e1 : s_X7_letters_tr Z pg tr p0 = F6 := by rw [s_X7_letters_tr]; (try rw [hr1]); (try rw [hF5]); (try rw [hF6]); rw [if_neg c2]
    exact k_iret kx hK hP11 hD12 hS10 (u := (F5, F6)) rfl ⟨er.symm, e0.symm, e1.symm⟩ dX7_letters_48
  · skip
    refine lv_bipush (v := (-2)) hx hb dX7_letters_17 (by decide) ?_
    have er : r_X7_letters Z pg tr p0 = (-2) := by rw [r_X7_letters]; (try rw [hr1]); rw [if_pos c2]
    have e0 : s_X7_letters_Z Z pg tr p0 = upd Z 0 0 := by rw [s_X7_letters_Z]; (try rw [hr1]); rw [if_pos c2]
    have e1 : s_X7_letters_tr Z pg tr p0 = tr := by rw [s_X7_letters_tr]; (try rw [hr1]); rw [if_pos c2]
    exact k_iret kx hK hP5 hD6 hS4 (u := (upd Z 0 0, tr)) rfl ⟨er.symm, e0.symm, e1.symm⟩ dX7_letters_19

def l_X7_keep_0_1_r (pg : Nat → Int32) : Nat → Nat → (Nat → Int32) → Int32
  | 0, j1, kp_1 => pg 52
  | n1 + 1, j1, kp_1 => l_X7_keep_0_1_r pg n1 (j1 + 1) (upd kp_1 (0 + j1) (pg j1))
def r_X7_keep_0 (pg : Nat → Int32) (kp : Nat → Int32) : Int32 := l_X7_keep_0_1_r pg 55 0 kp
def l_X7_keep_0_1_Z (Z : Nat → Int32) (pg : Nat → Int32) : Nat → Nat → (Nat → Int32) → Nat → Int32
  | 0, j1, kp_1 => upd Z 0 0
  | n1 + 1, j1, kp_1 => l_X7_keep_0_1_Z Z pg n1 (j1 + 1) (upd kp_1 (0 + j1) (pg j1))
def s_X7_keep_0_Z (Z : Nat → Int32) (pg : Nat → Int32) (kp : Nat → Int32) : Nat → Int32 := l_X7_keep_0_1_Z Z pg 55 0 kp
def l_X7_keep_0_1_kp (pg : Nat → Int32) : Nat → Nat → (Nat → Int32) → Nat → Int32
  | 0, j1, kp_1 => kp_1
  | n1 + 1, j1, kp_1 => l_X7_keep_0_1_kp pg n1 (j1 + 1) (upd kp_1 (0 + j1) (pg j1))
def s_X7_keep_0_kp (pg : Nat → Int32) (kp : Nat → Int32) : Nat → Int32 := l_X7_keep_0_1_kp pg 55 0 kp
def l_X7_keep_0_1_ik (pg : Nat → Int32) (ik : Nat → Int32) : Nat → Nat → (Nat → Int32) → Nat → Int32
  | 0, j1, kp_1 => upd ik 0 1
  | n1 + 1, j1, kp_1 => l_X7_keep_0_1_ik pg ik n1 (j1 + 1) (upd kp_1 (0 + j1) (pg j1))
def s_X7_keep_0_ik (pg : Nat → Int32) (kp : Nat → Int32) (ik : Nat → Int32) : Nat → Int32 := l_X7_keep_0_1_ik pg ik 55 0 kp
set_option maxHeartbeats 4000000 in
set_option maxRecDepth 100000 in
theorem c_X7_keep_0 (l : Launch) (G : kG) (Z : Nat → Int32) (sd : Int64) (h0 : Nat) (q1 : Nat) (q2 : Nat) (q3 : Nat) (q4 : Nat) (q5 : Nat) (q6 : Nat) (q7 : Nat) (q8 : Nat) (q9 : Nat) (q10 : Nat) (q11 : Nat) (pg : Nat → Int32) (kp : Nat → Int32) (ik : Nat → Int32) : cG l G yX7_keep cX7_keep 3 (some .int) 1 [.ref h0, .int 0] ([(h0, .inr (7, cM Z q1 q2 q3 q4 q5 q6 q7 q8 q9 q10 q11 sd)), (q4, .inl (G.2.1, 55, .inl pg)), (q7, .inl (G.2.1, 110, .inl kp)), (q8, .inl (G.2.2.1, 2, .inl ik))]) (qI G (fun (r : Int32) (u : ((Nat → Int32) × (Nat → Int32) × (Nat → Int32))) => r = r_X7_keep_0 pg kp ∧ u.1 = s_X7_keep_0_Z Z pg kp ∧ u.2.1 = s_X7_keep_0_kp pg kp ∧ u.2.2 = s_X7_keep_0_ik pg kp ik) (fun u => [(h0, .inr (7, cM u.1 q1 q2 q3 q4 q5 q6 q7 q8 q9 q10 q11 sd)), (q4, .inl (G.2.1, 55, .inl pg)), (q7, .inl (G.2.1, 110, .inl u.2.1)), (q8, .inl (G.2.2.1, 2, .inl u.2.2))])) := by
  refine kintro (by decide) (Nat.le_of_ble_eq_true rfl) ?_
  intro p e s m args below meth c A ls kx hK hP hD hS hA hl
  have kx : kX p s m args meth c cX7_keep 3 (some .int) RX7 := kx
  have hx := kx.1
  have hb := kx.2.1
  have hown := kx.2.2.2.2.1
  have ht := kx.2.2.2.2.2.2
  have hl : lv_has ls 3 [(0, .ref h0), (1, .int 0)] := hl
  refine lv_aload_n hx hb dX7_keep_0 rfl (lv_at hl 0 rfl) ?_
  refine lv_iconst (v := 0) hx hb dX7_keep_1 (by decide) ?_
  refine va_put (ci := 7) (v := .int 0) (ty := .int) (C := RX7) (T := TX7) (N := 22) hx hb ht inX7 tyX7 tyX7_ok nmX7 hown hK.1 hP hD hS 0 rfl rfl 0 (by decide) (ht _ q_666) (fun _ h9 => h9) rfl (by decide +kernel) rfl rfl (Nat.le_of_ble_eq_true rfl) dX7_keep_2 (fun H1 locs1 hP1 hD1 hS1 => ?_)
  have hP2 : va_P G.1 vwCl ([(h0, .inr (7, cM (upd Z 0 0) q1 q2 q3 q4 q5 q6 q7 q8 q9 q10 q11 sd)), (q4, .inl (G.2.1, 55, .inl pg)), (q7, .inl (G.2.1, 110, .inl kp)), (q8, .inl (G.2.2.1, 2, .inl ik))]) H1 := hP1
  have hD3 : va_D A ([(h0, .inr (7, cM (upd Z 0 0) q1 q2 q3 q4 q5 q6 q7 q8 q9 q10 q11 sd)), (q4, .inl (G.2.1, 55, .inl pg)), (q7, .inl (G.2.1, 110, .inl kp)), (q8, .inl (G.2.2.1, 2, .inl ik))]) := hD1
  refine lv_iload_n hx hb dX7_keep_5 rfl (lv_at hl 1 rfl) ?_
  refine lv_i2l (v := 0) hx hb dX7_keep_6 (by decide +kernel) ?_
  refine lv_lconst (v := 0) hx hb dX7_keep_7 (by decide) ?_
  refine lv_lconst (v := 1) hx hb dX7_keep_8 (by decide) ?_
  refine k_calli (kRunS (As := [.long 0, .long 0, .long 1]) (rest := []) kx (c_X7_in_001 l G ) q_740 q_738 q_36 q_739 nX7_in ⟨Nat.le_of_ble_eq_true rfl, Nat.le_of_ble_eq_true rfl⟩ hK hP2 hD3 (kCtx_nil _) rfl hl.1 (Nat.le_of_ble_eq_true rfl) dX7_keep_9 ⟨Nat.zero_le _, Nat.zero_le _⟩) hP2 hD3 hS1 hA (kCtx_nil _) (fun _ => rfl) (fun r1 _ H4 locs4 hw hP4 hD4 hS4 => ?_)
  have hr1 : 1 = r1 := (show r1 = 1 from hw).symm
  subst hr1
  have hP5 : va_P G.1 vwCl ([(h0, .inr (7, cM (upd Z 0 0) q1 q2 q3 q4 q5 q6 q7 q8 q9 q10 q11 sd)), (q4, .inl (G.2.1, 55, .inl pg)), (q7, .inl (G.2.1, 110, .inl kp)), (q8, .inl (G.2.2.1, 2, .inl ik))]) H4 := hP4
  have hD6 : va_D A ([(h0, .inr (7, cM (upd Z 0 0) q1 q2 q3 q4 q5 q6 q7 q8 q9 q10 q11 sd)), (q4, .inl (G.2.1, 55, .inl pg)), (q7, .inl (G.2.1, 110, .inl kp)), (q8, .inl (G.2.2.1, 2, .inl ik))]) := hD4
  refine lv_if_ne (x := 1) (tgt := 17) hx hb dX7_keep_12 (by decide) (fun (c2 : ¬ (1 = 0)) => ?_) (fun (c2 : 1 = 0) => absurd c2 (by decide))
  refine lv_aload_n hx hb dX7_keep_17 rfl (lv_at hl 0 rfl) ?_
  refine va_get (ci := 7) (v := .ref q8) (C := RX7) (T := TX7) (N := 22) hx hb ht inX7 hown hK.1 hP5 0 rfl rfl 12 (by decide) (ht _ q_678) (fun _ h9 => h9) rfl dX7_keep_18 ?_
  refine lv_iload_n hx hb dX7_keep_21 rfl (lv_at hl 1 rfl) ?_
  refine lv_iconst (v := 1) hx hb dX7_keep_22 (by decide) ?_
  refine k_zast kx hK hP5 hD6 hS4 3 rfl 0 rfl (by decide) (by decide) rfl dX7_keep_23 (fun H7 locs7 hP7 hD7 hS7 => ?_)
  have hP8 : va_P G.1 vwCl ([(h0, .inr (7, cM (upd Z 0 0) q1 q2 q3 q4 q5 q6 q7 q8 q9 q10 q11 sd)), (q4, .inl (G.2.1, 55, .inl pg)), (q7, .inl (G.2.1, 110, .inl kp)), (q8, .inl (G.2.2.1, 2, .inl (upd ik 0 1)))]) H7 := hP7
  have hD9 : va_D A ([(h0, .inr (7, cM (upd Z 0 0) q1 q2 q3 q4 q5 q6 q7 q8 q9 q10 q11 sd)), (q4, .inl (G.2.1, 55, .inl pg)), (q7, .inl (G.2.1, 110, .inl kp)), (q8, .inl (G.2.2.1, 2, .inl (upd ik 0 1)))]) := hD7
  refine lv_iconst (v := 0) hx hb dX7_keep_24 (by decide) ?_
  refine lv_istore_n (lv' := [(2, .int 0), (0, .ref h0), (1, .int 0)]) hx hb dX7_keep_25 rfl hl (by decide) rfl (fun ls10 hl10 => ?_)
  have lp1 : ∀ (n1 j1 : Nat) (kp_1 : Nat → Int32), j1 + n1 = 55 → (hr_1 : r_X7_keep_0 pg kp = l_X7_keep_0_1_r pg n1 j1 kp_1) → (hZ_1 : s_X7_keep_0_Z Z pg kp = l_X7_keep_0_1_Z Z pg n1 j1 kp_1) → (hkp_1 : s_X7_keep_0_kp pg kp = l_X7_keep_0_1_kp pg n1 j1 kp_1) → (hik_1 : s_X7_keep_0_ik pg kp ik = l_X7_keep_0_1_ik pg ik n1 j1 kp_1) → ∀ (H : Heap) (locs : List Loc) (ls : Array Slot), va_P G.1 vwCl ([(h0, .inr (7, cM (upd Z 0 0) q1 q2 q3 q4 q5 q6 q7 q8 q9 q10 q11 sd)), (q4, .inl (G.2.1, 55, .inl pg)), (q7, .inl (G.2.1, 110, .inl kp_1)), (q8, .inl (G.2.2.1, 2, .inl (upd ik 0 1)))]) H → va_D A ([(h0, .inr (7, cM (upd Z 0 0) q1 q2 q3 q4 q5 q6 q7 q8 q9 q10 q11 sd)), (q4, .inl (G.2.1, 55, .inl pg)), (q7, .inl (G.2.1, 110, .inl kp_1)), (q8, .inl (G.2.2.1, 2, .inl (upd ik 0 1)))]) → va_S A s.heap H locs → lv_has ls 3 [(0, .ref h0), (1, .int 0), (2, .int (nI j1))] → W p l e (kr 1) s m args below meth c H locs 0 0 (MQ below (qI G (fun (r : Int32) (u : ((Nat → Int32) × (Nat → Int32) × (Nat → Int32))) => r = r_X7_keep_0 pg kp ∧ u.1 = s_X7_keep_0_Z Z pg kp ∧ u.2.1 = s_X7_keep_0_kp pg kp ∧ u.2.2 = s_X7_keep_0_ik pg kp ik) (fun u => [(h0, .inr (7, cM u.1 q1 q2 q3 q4 q5 q6 q7 q8 q9 q10 q11 sd)), (q4, .inl (G.2.1, 55, .inl pg)), (q7, .inl (G.2.1, 110, .inl u.2.1)), (q8, .inl (G.2.2.1, 2, .inl u.2.2))]) A) args s 0 0 A) (F0 m 26 ls []) := by
    intro n1
    induction n1 with
    | zero =>
      intro j1 kp_1 hj1 hr_1 hZ_1 hkp_1 hik_1 H11 locs11 ls11 hP11 hD11 hS11 hl11
      refine lv_iload_n hx hb dX7_keep_26 rfl (lv_at hl11 2 rfl) ?_
      refine lv_bipush (v := 55) hx hb dX7_keep_27 (by decide) ?_
      refine lv_icmp_ge (x := nI j1) (y := 55) (tgt := 55) hx hb dX7_keep_29 (by decide) (fun (c3 : 55 ≤ nI j1) => ?_) (fun (c3 : ¬ (55 ≤ nI j1)) => absurd (kle_z rfl hj1) c3)
      refine lv_aload_n hx hb dX7_keep_55 rfl (lv_at hl11 0 rfl) ?_
      refine va_get (ci := 7) (v := .ref q4) (C := RX7) (T := TX7) (N := 22) hx hb ht inX7 hown hK.1 hP11 0 rfl rfl 7 (by decide) (ht _ q_673) (fun _ h9 => h9) rfl dX7_keep_56 ?_
      refine lv_bipush (v := 52) hx hb dX7_keep_59 (by decide) ?_
      refine k_iald (v := (pg 52)) kx hK hP11 1 rfl 52 rfl (by decide) (by decide) rfl dX7_keep_61 ?_
      have er : r_X7_keep_0 pg kp = pg 52 := by rw [hr_1, l_X7_keep_0_1_r]
      have e0 : s_X7_keep_0_Z Z pg kp = upd Z 0 0 := by rw [hZ_1, l_X7_keep_0_1_Z]
      have e1 : s_X7_keep_0_kp pg kp = kp_1 := by rw [hkp_1, l_X7_keep_0_1_kp]
      have e2 : s_X7_keep_0_ik pg kp ik = upd ik 0 1 := by rw [hik_1, l_X7_keep_0_1_ik]
      exact k_iret kx hK hP11 hD11 hS11 (u := (upd Z 0 0, kp_1, upd ik 0 1)) rfl ⟨er.symm, e0.symm, e1.symm, e2.symm⟩ dX7_keep_62
    | succ n1 ih1 =>
      intro j1 kp_1 hj1 hr_1 hZ_1 hkp_1 hik_1 H11 locs11 ls11 hP11 hD11 hS11 hl11
      refine lv_iload_n hx hb dX7_keep_26 rfl (lv_at hl11 2 rfl) ?_
      refine lv_bipush (v := 55) hx hb dX7_keep_27 (by decide) ?_
      refine lv_icmp_ge (x := nI j1) (y := 55) (tgt := 55) hx hb dX7_keep_29 (by decide) (fun (c4 : 55 ≤ nI j1) => absurd c4 (kle_s rfl hj1 (by decide))) (fun (c4 : ¬ (55 ≤ nI j1)) => ?_)
      refine lv_aload_n hx hb dX7_keep_32 rfl (lv_at hl11 0 rfl) ?_
      refine va_get (ci := 7) (v := .ref q7) (C := RX7) (T := TX7) (N := 22) hx hb ht inX7 hown hK.1 hP11 0 rfl rfl 11 (by decide) (ht _ q_677) (fun _ h9 => h9) rfl dX7_keep_33 ?_
      refine lv_bipush (v := 55) hx hb dX7_keep_36 (by decide) ?_
      refine lv_iload_n hx hb dX7_keep_38 rfl (lv_at hl11 1 rfl) ?_
      refine lv_imul hx hb dX7_keep_39 ?_
      refine k_top (y := 0) (by decide +kernel) ?_
      refine lv_iload_n hx hb dX7_keep_40 rfl (lv_at hl11 2 rfl) ?_
      refine lv_iadd hx hb dX7_keep_41 ?_
      refine lv_aload_n hx hb dX7_keep_42 rfl (lv_at hl11 0 rfl) ?_
      refine va_get (ci := 7) (v := .ref q4) (C := RX7) (T := TX7) (N := 22) hx hb ht inX7 hown hK.1 hP11 0 rfl rfl 7 (by decide) (ht _ q_673) (fun _ h9 => h9) rfl dX7_keep_43 ?_
      refine lv_iload_n hx hb dX7_keep_46 rfl (lv_at hl11 2 rfl) ?_
      refine k_iald (v := (pg j1)) kx hK hP11 1 rfl j1 rfl (by omega) (by decide) rfl dX7_keep_47 ?_
      refine k_iast kx hK hP11 hD11 hS11 2 rfl (0 + j1) (kadd rfl rfl) (by omega) (by decide) dX7_keep_48 (fun H12 locs12 hP12 hD12 hS12 => ?_)
      have hP13 : va_P G.1 vwCl ([(h0, .inr (7, cM (upd Z 0 0) q1 q2 q3 q4 q5 q6 q7 q8 q9 q10 q11 sd)), (q4, .inl (G.2.1, 55, .inl pg)), (q7, .inl (G.2.1, 110, .inl (upd kp_1 (0 + j1) (pg j1)))), (q8, .inl (G.2.2.1, 2, .inl (upd ik 0 1)))]) H12 := hP12
      have hD14 : va_D A ([(h0, .inr (7, cM (upd Z 0 0) q1 q2 q3 q4 q5 q6 q7 q8 q9 q10 q11 sd)), (q4, .inl (G.2.1, 55, .inl pg)), (q7, .inl (G.2.1, 110, .inl (upd kp_1 (0 + j1) (pg j1)))), (q8, .inl (G.2.2.1, 2, .inl (upd ik 0 1)))]) := hD12
      refine lv_iinc (v := nI (j1 + 1)) (lv' := [(2, .int (nI (j1 + 1))), (0, .ref h0), (1, .int 0)]) hx hb dX7_keep_49 hl11 (k := 2) rfl (nI_1 j1) (by decide) rfl (fun ls15 hl15 => ?_)
      refine lv_goto (tgt := 26) hx hb dX7_keep_52 (by decide) ?_
      have gr : r_X7_keep_0 pg kp = l_X7_keep_0_1_r pg n1 (j1 + 1) (upd kp_1 (0 + j1) (pg j1)) := by rw [hr_1, l_X7_keep_0_1_r]
      have gZ : s_X7_keep_0_Z Z pg kp = l_X7_keep_0_1_Z Z pg n1 (j1 + 1) (upd kp_1 (0 + j1) (pg j1)) := by rw [hZ_1, l_X7_keep_0_1_Z]
      have gkp : s_X7_keep_0_kp pg kp = l_X7_keep_0_1_kp pg n1 (j1 + 1) (upd kp_1 (0 + j1) (pg j1)) := by rw [hkp_1, l_X7_keep_0_1_kp]
      have gik : s_X7_keep_0_ik pg kp ik = l_X7_keep_0_1_ik pg ik n1 (j1 + 1) (upd kp_1 (0 + j1) (pg j1)) := by rw [hik_1, l_X7_keep_0_1_ik]
      exact ih1 (j1 + 1) (upd kp_1 (0 + j1) (pg j1)) (by omega) gr gZ gkp gik _ _ _ hP13 hD14 hS12 (lv_sub hl15 [1, 2, 0] rfl)
  have gr : r_X7_keep_0 pg kp = l_X7_keep_0_1_r pg 55 0 kp := by rw [r_X7_keep_0]
  have gZ : s_X7_keep_0_Z Z pg kp = l_X7_keep_0_1_Z Z pg 55 0 kp := by rw [s_X7_keep_0_Z]
  have gkp : s_X7_keep_0_kp pg kp = l_X7_keep_0_1_kp pg 55 0 kp := by rw [s_X7_keep_0_kp]
  have gik : s_X7_keep_0_ik pg kp ik = l_X7_keep_0_1_ik pg ik 55 0 kp := by rw [s_X7_keep_0_ik]
  exact lp1 55 0 kp (by omega) gr gZ gkp gik _ _ _ hP8 hD9 hS7 (lv_sub hl10 [1, 2, 0] rfl)

def l_X7_again_0_1_r (kp : Nat → Int32) : Nat → Nat → (Nat → Int32) → Int32
  | 0, j1, pg_1 => pg_1 52
  | n1 + 1, j1, pg_1 => l_X7_again_0_1_r kp n1 (j1 + 1) (upd pg_1 j1 (kp (0 + j1)))
def r_X7_again_0 (pg : Nat → Int32) (kp : Nat → Int32) (ik : Nat → Int32) : Int32 := if ik 0 = 0 then (-3) else l_X7_again_0_1_r kp 55 0 pg
def l_X7_again_0_1_Z (Z : Nat → Int32) (kp : Nat → Int32) : Nat → Nat → (Nat → Int32) → Nat → Int32
  | 0, j1, pg_1 => upd (upd Z 0 0) 10 0
  | n1 + 1, j1, pg_1 => l_X7_again_0_1_Z Z kp n1 (j1 + 1) (upd pg_1 j1 (kp (0 + j1)))
def s_X7_again_0_Z (Z : Nat → Int32) (pg : Nat → Int32) (kp : Nat → Int32) (ik : Nat → Int32) : Nat → Int32 := if ik 0 = 0 then (upd Z 0 0) else l_X7_again_0_1_Z Z kp 55 0 pg
def l_X7_again_0_1_pg (kp : Nat → Int32) : Nat → Nat → (Nat → Int32) → Nat → Int32
  | 0, j1, pg_1 => pg_1
  | n1 + 1, j1, pg_1 => l_X7_again_0_1_pg kp n1 (j1 + 1) (upd pg_1 j1 (kp (0 + j1)))
def s_X7_again_0_pg (pg : Nat → Int32) (kp : Nat → Int32) (ik : Nat → Int32) : Nat → Int32 := if ik 0 = 0 then pg else l_X7_again_0_1_pg kp 55 0 pg
set_option maxHeartbeats 4000000 in
set_option maxRecDepth 100000 in
theorem c_X7_again_0 (l : Launch) (G : kG) (Z : Nat → Int32) (sd : Int64) (h0 : Nat) (q1 : Nat) (q2 : Nat) (q3 : Nat) (q4 : Nat) (q5 : Nat) (q6 : Nat) (q7 : Nat) (q8 : Nat) (q9 : Nat) (q10 : Nat) (q11 : Nat) (pg : Nat → Int32) (kp : Nat → Int32) (ik : Nat → Int32) : cG l G yX7_again cX7_again 3 (some .int) 1 [.ref h0, .int 0] ([(h0, .inr (7, cM Z q1 q2 q3 q4 q5 q6 q7 q8 q9 q10 q11 sd)), (q4, .inl (G.2.1, 55, .inl pg)), (q7, .inl (G.2.1, 110, .inl kp)), (q8, .inl (G.2.2.1, 2, .inl ik))]) (qI G (fun (r : Int32) (u : ((Nat → Int32) × (Nat → Int32))) => r = r_X7_again_0 pg kp ik ∧ u.1 = s_X7_again_0_Z Z pg kp ik ∧ u.2 = s_X7_again_0_pg pg kp ik) (fun u => [(h0, .inr (7, cM u.1 q1 q2 q3 q4 q5 q6 q7 q8 q9 q10 q11 sd)), (q4, .inl (G.2.1, 55, .inl u.2)), (q7, .inl (G.2.1, 110, .inl kp)), (q8, .inl (G.2.2.1, 2, .inl ik))])) := by
  refine kintro (by decide) (Nat.le_of_ble_eq_true rfl) ?_
  intro p e s m args below meth c A ls kx hK hP hD hS hA hl
  have kx : kX p s m args meth c cX7_again 3 (some .int) RX7 := kx
  have hx := kx.1
  have hb := kx.2.1
  have hown := kx.2.2.2.2.1
  have ht := kx.2.2.2.2.2.2
  have hl : lv_has ls 3 [(0, .ref h0), (1, .int 0)] := hl
  refine lv_aload_n hx hb dX7_again_0 rfl (lv_at hl 0 rfl) ?_
  refine lv_iconst (v := 0) hx hb dX7_again_1 (by decide) ?_
  refine va_put (ci := 7) (v := .int 0) (ty := .int) (C := RX7) (T := TX7) (N := 22) hx hb ht inX7 tyX7 tyX7_ok nmX7 hown hK.1 hP hD hS 0 rfl rfl 0 (by decide) (ht _ q_666) (fun _ h9 => h9) rfl (by decide +kernel) rfl rfl (Nat.le_of_ble_eq_true rfl) dX7_again_2 (fun H1 locs1 hP1 hD1 hS1 => ?_)
  have hP2 : va_P G.1 vwCl ([(h0, .inr (7, cM (upd Z 0 0) q1 q2 q3 q4 q5 q6 q7 q8 q9 q10 q11 sd)), (q4, .inl (G.2.1, 55, .inl pg)), (q7, .inl (G.2.1, 110, .inl kp)), (q8, .inl (G.2.2.1, 2, .inl ik))]) H1 := hP1
  have hD3 : va_D A ([(h0, .inr (7, cM (upd Z 0 0) q1 q2 q3 q4 q5 q6 q7 q8 q9 q10 q11 sd)), (q4, .inl (G.2.1, 55, .inl pg)), (q7, .inl (G.2.1, 110, .inl kp)), (q8, .inl (G.2.2.1, 2, .inl ik))]) := hD1
  refine lv_iload_n hx hb dX7_again_5 rfl (lv_at hl 1 rfl) ?_
  refine lv_i2l (v := 0) hx hb dX7_again_6 (by decide +kernel) ?_
  refine lv_lconst (v := 0) hx hb dX7_again_7 (by decide) ?_
  refine lv_lconst (v := 1) hx hb dX7_again_8 (by decide) ?_
  refine k_calli (kRunS (As := [.long 0, .long 0, .long 1]) (rest := []) kx (c_X7_in_001 l G ) q_740 q_738 q_36 q_739 nX7_in ⟨Nat.le_of_ble_eq_true rfl, Nat.le_of_ble_eq_true rfl⟩ hK hP2 hD3 (kCtx_nil _) rfl hl.1 (Nat.le_of_ble_eq_true rfl) dX7_again_9 ⟨Nat.zero_le _, Nat.zero_le _⟩) hP2 hD3 hS1 hA (kCtx_nil _) (fun _ => rfl) (fun r1 _ H4 locs4 hw hP4 hD4 hS4 => ?_)
  have hr1 : 1 = r1 := (show r1 = 1 from hw).symm
  subst hr1
  have hP5 : va_P G.1 vwCl ([(h0, .inr (7, cM (upd Z 0 0) q1 q2 q3 q4 q5 q6 q7 q8 q9 q10 q11 sd)), (q4, .inl (G.2.1, 55, .inl pg)), (q7, .inl (G.2.1, 110, .inl kp)), (q8, .inl (G.2.2.1, 2, .inl ik))]) H4 := hP4
  have hD6 : va_D A ([(h0, .inr (7, cM (upd Z 0 0) q1 q2 q3 q4 q5 q6 q7 q8 q9 q10 q11 sd)), (q4, .inl (G.2.1, 55, .inl pg)), (q7, .inl (G.2.1, 110, .inl kp)), (q8, .inl (G.2.2.1, 2, .inl ik))]) := hD4
  refine lv_if_ne (x := 1) (tgt := 17) hx hb dX7_again_12 (by decide) (fun (c2 : ¬ (1 = 0)) => ?_) (fun (c2 : 1 = 0) => absurd c2 (by decide))
  refine lv_aload_n hx hb dX7_again_17 rfl (lv_at hl 0 rfl) ?_
  refine va_get (ci := 7) (v := .ref q8) (C := RX7) (T := TX7) (N := 22) hx hb ht inX7 hown hK.1 hP5 0 rfl rfl 12 (by decide) (ht _ q_678) (fun _ h9 => h9) rfl dX7_again_18 ?_
  refine lv_iload_n hx hb dX7_again_21 rfl (lv_at hl 1 rfl) ?_
  refine k_zald (v := (ik 0)) kx hK hP5 3 rfl 0 rfl (by decide) (by decide) rfl dX7_again_22 ?_
  refine lv_if_ne (x := ik 0) (tgt := 29) hx hb dX7_again_23 (by decide) (fun (c3 : ¬ (ik 0 = 0)) => ?_) (fun (c3 : ik 0 = 0) => ?_)
  · skip
    refine lv_iconst (v := 0) hx hb dX7_again_29 (by decide) ?_
    refine lv_istore_n (lv' := [(2, .int 0), (0, .ref h0), (1, .int 0)]) hx hb dX7_again_30 rfl hl (by decide) rfl (fun ls7 hl7 => ?_)
    have lp1 : ∀ (n1 j1 : Nat) (pg_1 : Nat → Int32), j1 + n1 = 55 → (hr_1 : r_X7_again_0 pg kp ik = l_X7_again_0_1_r kp n1 j1 pg_1) → (hZ_1 : s_X7_again_0_Z Z pg kp ik = l_X7_again_0_1_Z Z kp n1 j1 pg_1) → (hpg_1 : s_X7_again_0_pg pg kp ik = l_X7_again_0_1_pg kp n1 j1 pg_1) → ∀ (H : Heap) (locs : List Loc) (ls : Array Slot), va_P G.1 vwCl ([(h0, .inr (7, cM (upd Z 0 0) q1 q2 q3 q4 q5 q6 q7 q8 q9 q10 q11 sd)), (q4, .inl (G.2.1, 55, .inl pg_1)), (q7, .inl (G.2.1, 110, .inl kp)), (q8, .inl (G.2.2.1, 2, .inl ik))]) H → va_D A ([(h0, .inr (7, cM (upd Z 0 0) q1 q2 q3 q4 q5 q6 q7 q8 q9 q10 q11 sd)), (q4, .inl (G.2.1, 55, .inl pg_1)), (q7, .inl (G.2.1, 110, .inl kp)), (q8, .inl (G.2.2.1, 2, .inl ik))]) → va_S A s.heap H locs → lv_has ls 3 [(0, .ref h0), (1, .int 0), (2, .int (nI j1))] → W p l e (kr 1) s m args below meth c H locs 0 0 (MQ below (qI G (fun (r : Int32) (u : ((Nat → Int32) × (Nat → Int32))) => r = r_X7_again_0 pg kp ik ∧ u.1 = s_X7_again_0_Z Z pg kp ik ∧ u.2 = s_X7_again_0_pg pg kp ik) (fun u => [(h0, .inr (7, cM u.1 q1 q2 q3 q4 q5 q6 q7 q8 q9 q10 q11 sd)), (q4, .inl (G.2.1, 55, .inl u.2)), (q7, .inl (G.2.1, 110, .inl kp)), (q8, .inl (G.2.2.1, 2, .inl ik))]) A) args s 0 0 A) (F0 m 31 ls []) := by
      intro n1
      induction n1 with
      | zero =>
        intro j1 pg_1 hj1 hr_1 hZ_1 hpg_1 H8 locs8 ls8 hP8 hD8 hS8 hl8
        refine lv_iload_n hx hb dX7_again_31 rfl (lv_at hl8 2 rfl) ?_
        refine lv_bipush (v := 55) hx hb dX7_again_32 (by decide) ?_
        refine lv_icmp_ge (x := nI j1) (y := 55) (tgt := 60) hx hb dX7_again_34 (by decide) (fun (c4 : 55 ≤ nI j1) => ?_) (fun (c4 : ¬ (55 ≤ nI j1)) => absurd (kle_z rfl hj1) c4)
        refine lv_aload_n hx hb dX7_again_60 rfl (lv_at hl8 0 rfl) ?_
        refine lv_iconst (v := 0) hx hb dX7_again_61 (by decide) ?_
        refine va_put (ci := 7) (v := .int 0) (ty := .int) (C := RX7) (T := TX7) (N := 22) hx hb ht inX7 tyX7 tyX7_ok nmX7 hown hK.1 hP8 hD8 hS8 0 rfl rfl 10 (by decide) (ht _ q_676) (fun _ h9 => h9) rfl (by decide +kernel) rfl rfl (Nat.le_of_ble_eq_true rfl) dX7_again_62 (fun H9 locs9 hP9 hD9 hS9 => ?_)
        have hP10 : va_P G.1 vwCl ([(h0, .inr (7, cM (upd (upd Z 0 0) 10 0) q1 q2 q3 q4 q5 q6 q7 q8 q9 q10 q11 sd)), (q4, .inl (G.2.1, 55, .inl pg_1)), (q7, .inl (G.2.1, 110, .inl kp)), (q8, .inl (G.2.2.1, 2, .inl ik))]) H9 := hP9
        have hD11 : va_D A ([(h0, .inr (7, cM (upd (upd Z 0 0) 10 0) q1 q2 q3 q4 q5 q6 q7 q8 q9 q10 q11 sd)), (q4, .inl (G.2.1, 55, .inl pg_1)), (q7, .inl (G.2.1, 110, .inl kp)), (q8, .inl (G.2.2.1, 2, .inl ik))]) := hD9
        refine lv_aload_n hx hb dX7_again_65 rfl (lv_at hl8 0 rfl) ?_
        refine va_get (ci := 7) (v := .ref q4) (C := RX7) (T := TX7) (N := 22) hx hb ht inX7 hown hK.1 hP10 0 rfl rfl 7 (by decide) (ht _ q_673) (fun _ h9 => h9) rfl dX7_again_66 ?_
        refine lv_bipush (v := 52) hx hb dX7_again_69 (by decide) ?_
        refine k_iald (v := (pg_1 52)) kx hK hP10 1 rfl 52 rfl (by decide) (by decide) rfl dX7_again_71 ?_
        have er : r_X7_again_0 pg kp ik = pg_1 52 := by rw [hr_1, l_X7_again_0_1_r]
        have e0 : s_X7_again_0_Z Z pg kp ik = upd (upd Z 0 0) 10 0 := by rw [hZ_1, l_X7_again_0_1_Z]
        have e1 : s_X7_again_0_pg pg kp ik = pg_1 := by rw [hpg_1, l_X7_again_0_1_pg]
        exact k_iret kx hK hP10 hD11 hS9 (u := (upd (upd Z 0 0) 10 0, pg_1)) rfl ⟨er.symm, e0.symm, e1.symm⟩ dX7_again_72
      | succ n1 ih1 =>
        intro j1 pg_1 hj1 hr_1 hZ_1 hpg_1 H8 locs8 ls8 hP8 hD8 hS8 hl8
        refine lv_iload_n hx hb dX7_again_31 rfl (lv_at hl8 2 rfl) ?_
        refine lv_bipush (v := 55) hx hb dX7_again_32 (by decide) ?_
        refine lv_icmp_ge (x := nI j1) (y := 55) (tgt := 60) hx hb dX7_again_34 (by decide) (fun (c5 : 55 ≤ nI j1) => absurd c5 (kle_s rfl hj1 (by decide))) (fun (c5 : ¬ (55 ≤ nI j1)) => ?_)
        refine lv_aload_n hx hb dX7_again_37 rfl (lv_at hl8 0 rfl) ?_
        refine va_get (ci := 7) (v := .ref q4) (C := RX7) (T := TX7) (N := 22) hx hb ht inX7 hown hK.1 hP8 0 rfl rfl 7 (by decide) (ht _ q_673) (fun _ h9 => h9) rfl dX7_again_38 ?_
        refine lv_iload_n hx hb dX7_again_41 rfl (lv_at hl8 2 rfl) ?_
        refine lv_aload_n hx hb dX7_again_42 rfl (lv_at hl8 0 rfl) ?_
        refine va_get (ci := 7) (v := .ref q7) (C := RX7) (T := TX7) (N := 22) hx hb ht inX7 hown hK.1 hP8 0 rfl rfl 11 (by decide) (ht _ q_677) (fun _ h9 => h9) rfl dX7_again_43 ?_
        refine lv_bipush (v := 55) hx hb dX7_again_46 (by decide) ?_
        refine lv_iload_n hx hb dX7_again_48 rfl (lv_at hl8 1 rfl) ?_
        refine lv_imul hx hb dX7_again_49 ?_
        refine k_top (y := 0) (by decide +kernel) ?_
        refine lv_iload_n hx hb dX7_again_50 rfl (lv_at hl8 2 rfl) ?_
        refine lv_iadd hx hb dX7_again_51 ?_
        refine k_iald (v := (kp (0 + j1))) kx hK hP8 2 rfl (0 + j1) (kadd rfl rfl) (by omega) (by decide) rfl dX7_again_52 ?_
        refine k_iast kx hK hP8 hD8 hS8 1 rfl j1 rfl (by omega) (by decide) dX7_again_53 (fun H12 locs12 hP12 hD12 hS12 => ?_)
        have hP13 : va_P G.1 vwCl ([(h0, .inr (7, cM (upd Z 0 0) q1 q2 q3 q4 q5 q6 q7 q8 q9 q10 q11 sd)), (q4, .inl (G.2.1, 55, .inl (upd pg_1 j1 (kp (0 + j1))))), (q7, .inl (G.2.1, 110, .inl kp)), (q8, .inl (G.2.2.1, 2, .inl ik))]) H12 := hP12
        have hD14 : va_D A ([(h0, .inr (7, cM (upd Z 0 0) q1 q2 q3 q4 q5 q6 q7 q8 q9 q10 q11 sd)), (q4, .inl (G.2.1, 55, .inl (upd pg_1 j1 (kp (0 + j1))))), (q7, .inl (G.2.1, 110, .inl kp)), (q8, .inl (G.2.2.1, 2, .inl ik))]) := hD12
        refine lv_iinc (v := nI (j1 + 1)) (lv' := [(2, .int (nI (j1 + 1))), (0, .ref h0), (1, .int 0)]) hx hb dX7_again_54 hl8 (k := 2) rfl (nI_1 j1) (by decide) rfl (fun ls15 hl15 => ?_)
        refine lv_goto (tgt := 31) hx hb dX7_again_57 (by decide) ?_
        have gr : r_X7_again_0 pg kp ik = l_X7_again_0_1_r kp n1 (j1 + 1) (upd pg_1 j1 (kp (0 + j1))) := by rw [hr_1, l_X7_again_0_1_r]
        have gZ : s_X7_again_0_Z Z pg kp ik = l_X7_again_0_1_Z Z kp n1 (j1 + 1) (upd pg_1 j1 (kp (0 + j1))) := by rw [hZ_1, l_X7_again_0_1_Z]
        have gpg : s_X7_again_0_pg pg kp ik = l_X7_again_0_1_pg kp n1 (j1 + 1) (upd pg_1 j1 (kp (0 + j1))) := by rw [hpg_1, l_X7_again_0_1_pg]
        exact ih1 (j1 + 1) (upd pg_1 j1 (kp (0 + j1))) (by omega) gr gZ gpg _ _ _ hP13 hD14 hS12 (lv_sub hl15 [1, 2, 0] rfl)
    have gr : r_X7_again_0 pg kp ik = l_X7_again_0_1_r kp 55 0 pg := by rw [r_X7_again_0, if_neg c3]
    have gZ : s_X7_again_0_Z Z pg kp ik = l_X7_again_0_1_Z Z kp 55 0 pg := by rw [s_X7_again_0_Z, if_neg c3]
    have gpg : s_X7_again_0_pg pg kp ik = l_X7_again_0_1_pg kp 55 0 pg := by rw [s_X7_again_0_pg, if_neg c3]
    exact lp1 55 0 pg (by omega) gr gZ gpg _ _ _ hP5 hD6 hS4 (lv_sub hl7 [1, 2, 0] rfl)
  · skip
    refine lv_bipush (v := (-3)) hx hb dX7_again_26 (by decide) ?_
    have er : r_X7_again_0 pg kp ik = (-3) := by rw [r_X7_again_0, if_pos c3]
    have e0 : s_X7_again_0_Z Z pg kp ik = upd Z 0 0 := by rw [s_X7_again_0_Z, if_pos c3]
    have e1 : s_X7_again_0_pg pg kp ik = pg := by rw [s_X7_again_0_pg, if_pos c3]
    exact k_iret kx hK hP5 hD6 hS4 (u := (upd Z 0 0, pg)) rfl ⟨er.symm, e0.symm, e1.symm⟩ dX7_again_28

def l_X7_keep_1_1_r (pg : Nat → Int32) : Nat → Nat → (Nat → Int32) → Int32
  | 0, j1, kp_1 => pg 52
  | n1 + 1, j1, kp_1 => l_X7_keep_1_1_r pg n1 (j1 + 1) (upd kp_1 (55 + j1) (pg j1))
def r_X7_keep_1 (pg : Nat → Int32) (kp : Nat → Int32) : Int32 := l_X7_keep_1_1_r pg 55 0 kp
def l_X7_keep_1_1_Z (Z : Nat → Int32) (pg : Nat → Int32) : Nat → Nat → (Nat → Int32) → Nat → Int32
  | 0, j1, kp_1 => upd Z 0 0
  | n1 + 1, j1, kp_1 => l_X7_keep_1_1_Z Z pg n1 (j1 + 1) (upd kp_1 (55 + j1) (pg j1))
def s_X7_keep_1_Z (Z : Nat → Int32) (pg : Nat → Int32) (kp : Nat → Int32) : Nat → Int32 := l_X7_keep_1_1_Z Z pg 55 0 kp
def l_X7_keep_1_1_kp (pg : Nat → Int32) : Nat → Nat → (Nat → Int32) → Nat → Int32
  | 0, j1, kp_1 => kp_1
  | n1 + 1, j1, kp_1 => l_X7_keep_1_1_kp pg n1 (j1 + 1) (upd kp_1 (55 + j1) (pg j1))
def s_X7_keep_1_kp (pg : Nat → Int32) (kp : Nat → Int32) : Nat → Int32 := l_X7_keep_1_1_kp pg 55 0 kp
def l_X7_keep_1_1_ik (pg : Nat → Int32) (ik : Nat → Int32) : Nat → Nat → (Nat → Int32) → Nat → Int32
  | 0, j1, kp_1 => upd ik 1 1
  | n1 + 1, j1, kp_1 => l_X7_keep_1_1_ik pg ik n1 (j1 + 1) (upd kp_1 (55 + j1) (pg j1))
def s_X7_keep_1_ik (pg : Nat → Int32) (kp : Nat → Int32) (ik : Nat → Int32) : Nat → Int32 := l_X7_keep_1_1_ik pg ik 55 0 kp
set_option maxHeartbeats 4000000 in
set_option maxRecDepth 100000 in
theorem c_X7_keep_1 (l : Launch) (G : kG) (Z : Nat → Int32) (sd : Int64) (h0 : Nat) (q1 : Nat) (q2 : Nat) (q3 : Nat) (q4 : Nat) (q5 : Nat) (q6 : Nat) (q7 : Nat) (q8 : Nat) (q9 : Nat) (q10 : Nat) (q11 : Nat) (pg : Nat → Int32) (kp : Nat → Int32) (ik : Nat → Int32) : cG l G yX7_keep cX7_keep 3 (some .int) 1 [.ref h0, .int 1] ([(h0, .inr (7, cM Z q1 q2 q3 q4 q5 q6 q7 q8 q9 q10 q11 sd)), (q4, .inl (G.2.1, 55, .inl pg)), (q7, .inl (G.2.1, 110, .inl kp)), (q8, .inl (G.2.2.1, 2, .inl ik))]) (qI G (fun (r : Int32) (u : ((Nat → Int32) × (Nat → Int32) × (Nat → Int32))) => r = r_X7_keep_1 pg kp ∧ u.1 = s_X7_keep_1_Z Z pg kp ∧ u.2.1 = s_X7_keep_1_kp pg kp ∧ u.2.2 = s_X7_keep_1_ik pg kp ik) (fun u => [(h0, .inr (7, cM u.1 q1 q2 q3 q4 q5 q6 q7 q8 q9 q10 q11 sd)), (q4, .inl (G.2.1, 55, .inl pg)), (q7, .inl (G.2.1, 110, .inl u.2.1)), (q8, .inl (G.2.2.1, 2, .inl u.2.2))])) := by
  refine kintro (by decide) (Nat.le_of_ble_eq_true rfl) ?_
  intro p e s m args below meth c A ls kx hK hP hD hS hA hl
  have kx : kX p s m args meth c cX7_keep 3 (some .int) RX7 := kx
  have hx := kx.1
  have hb := kx.2.1
  have hown := kx.2.2.2.2.1
  have ht := kx.2.2.2.2.2.2
  have hl : lv_has ls 3 [(0, .ref h0), (1, .int 1)] := hl
  refine lv_aload_n hx hb dX7_keep_0 rfl (lv_at hl 0 rfl) ?_
  refine lv_iconst (v := 0) hx hb dX7_keep_1 (by decide) ?_
  refine va_put (ci := 7) (v := .int 0) (ty := .int) (C := RX7) (T := TX7) (N := 22) hx hb ht inX7 tyX7 tyX7_ok nmX7 hown hK.1 hP hD hS 0 rfl rfl 0 (by decide) (ht _ q_666) (fun _ h9 => h9) rfl (by decide +kernel) rfl rfl (Nat.le_of_ble_eq_true rfl) dX7_keep_2 (fun H1 locs1 hP1 hD1 hS1 => ?_)
  have hP2 : va_P G.1 vwCl ([(h0, .inr (7, cM (upd Z 0 0) q1 q2 q3 q4 q5 q6 q7 q8 q9 q10 q11 sd)), (q4, .inl (G.2.1, 55, .inl pg)), (q7, .inl (G.2.1, 110, .inl kp)), (q8, .inl (G.2.2.1, 2, .inl ik))]) H1 := hP1
  have hD3 : va_D A ([(h0, .inr (7, cM (upd Z 0 0) q1 q2 q3 q4 q5 q6 q7 q8 q9 q10 q11 sd)), (q4, .inl (G.2.1, 55, .inl pg)), (q7, .inl (G.2.1, 110, .inl kp)), (q8, .inl (G.2.2.1, 2, .inl ik))]) := hD1
  refine lv_iload_n hx hb dX7_keep_5 rfl (lv_at hl 1 rfl) ?_
  refine lv_i2l (v := 1) hx hb dX7_keep_6 (by decide +kernel) ?_
  refine lv_lconst (v := 0) hx hb dX7_keep_7 (by decide) ?_
  refine lv_lconst (v := 1) hx hb dX7_keep_8 (by decide) ?_
  refine k_calli (kRunS (As := [.long 1, .long 0, .long 1]) (rest := []) kx (c_X7_in_101 l G ) q_740 q_738 q_36 q_739 nX7_in ⟨Nat.le_of_ble_eq_true rfl, Nat.le_of_ble_eq_true rfl⟩ hK hP2 hD3 (kCtx_nil _) rfl hl.1 (Nat.le_of_ble_eq_true rfl) dX7_keep_9 ⟨Nat.zero_le _, Nat.zero_le _⟩) hP2 hD3 hS1 hA (kCtx_nil _) (fun _ => rfl) (fun r1 _ H4 locs4 hw hP4 hD4 hS4 => ?_)
  have hr1 : 1 = r1 := (show r1 = 1 from hw).symm
  subst hr1
  have hP5 : va_P G.1 vwCl ([(h0, .inr (7, cM (upd Z 0 0) q1 q2 q3 q4 q5 q6 q7 q8 q9 q10 q11 sd)), (q4, .inl (G.2.1, 55, .inl pg)), (q7, .inl (G.2.1, 110, .inl kp)), (q8, .inl (G.2.2.1, 2, .inl ik))]) H4 := hP4
  have hD6 : va_D A ([(h0, .inr (7, cM (upd Z 0 0) q1 q2 q3 q4 q5 q6 q7 q8 q9 q10 q11 sd)), (q4, .inl (G.2.1, 55, .inl pg)), (q7, .inl (G.2.1, 110, .inl kp)), (q8, .inl (G.2.2.1, 2, .inl ik))]) := hD4
  refine lv_if_ne (x := 1) (tgt := 17) hx hb dX7_keep_12 (by decide) (fun (c2 : ¬ (1 = 0)) => ?_) (fun (c2 : 1 = 0) => absurd c2 (by decide))
  refine lv_aload_n hx hb dX7_keep_17 rfl (lv_at hl 0 rfl) ?_
  refine va_get (ci := 7) (v := .ref q8) (C := RX7) (T := TX7) (N := 22) hx hb ht inX7 hown hK.1 hP5 0 rfl rfl 12 (by decide) (ht _ q_678) (fun _ h9 => h9) rfl dX7_keep_18 ?_
  refine lv_iload_n hx hb dX7_keep_21 rfl (lv_at hl 1 rfl) ?_
  refine lv_iconst (v := 1) hx hb dX7_keep_22 (by decide) ?_
  refine k_zast kx hK hP5 hD6 hS4 3 rfl 1 rfl (by decide) (by decide) rfl dX7_keep_23 (fun H7 locs7 hP7 hD7 hS7 => ?_)
  have hP8 : va_P G.1 vwCl ([(h0, .inr (7, cM (upd Z 0 0) q1 q2 q3 q4 q5 q6 q7 q8 q9 q10 q11 sd)), (q4, .inl (G.2.1, 55, .inl pg)), (q7, .inl (G.2.1, 110, .inl kp)), (q8, .inl (G.2.2.1, 2, .inl (upd ik 1 1)))]) H7 := hP7
  have hD9 : va_D A ([(h0, .inr (7, cM (upd Z 0 0) q1 q2 q3 q4 q5 q6 q7 q8 q9 q10 q11 sd)), (q4, .inl (G.2.1, 55, .inl pg)), (q7, .inl (G.2.1, 110, .inl kp)), (q8, .inl (G.2.2.1, 2, .inl (upd ik 1 1)))]) := hD7
  refine lv_iconst (v := 0) hx hb dX7_keep_24 (by decide) ?_
  refine lv_istore_n (lv' := [(2, .int 0), (0, .ref h0), (1, .int 1)]) hx hb dX7_keep_25 rfl hl (by decide) rfl (fun ls10 hl10 => ?_)
  have lp1 : ∀ (n1 j1 : Nat) (kp_1 : Nat → Int32), j1 + n1 = 55 → (hr_1 : r_X7_keep_1 pg kp = l_X7_keep_1_1_r pg n1 j1 kp_1) → (hZ_1 : s_X7_keep_1_Z Z pg kp = l_X7_keep_1_1_Z Z pg n1 j1 kp_1) → (hkp_1 : s_X7_keep_1_kp pg kp = l_X7_keep_1_1_kp pg n1 j1 kp_1) → (hik_1 : s_X7_keep_1_ik pg kp ik = l_X7_keep_1_1_ik pg ik n1 j1 kp_1) → ∀ (H : Heap) (locs : List Loc) (ls : Array Slot), va_P G.1 vwCl ([(h0, .inr (7, cM (upd Z 0 0) q1 q2 q3 q4 q5 q6 q7 q8 q9 q10 q11 sd)), (q4, .inl (G.2.1, 55, .inl pg)), (q7, .inl (G.2.1, 110, .inl kp_1)), (q8, .inl (G.2.2.1, 2, .inl (upd ik 1 1)))]) H → va_D A ([(h0, .inr (7, cM (upd Z 0 0) q1 q2 q3 q4 q5 q6 q7 q8 q9 q10 q11 sd)), (q4, .inl (G.2.1, 55, .inl pg)), (q7, .inl (G.2.1, 110, .inl kp_1)), (q8, .inl (G.2.2.1, 2, .inl (upd ik 1 1)))]) → va_S A s.heap H locs → lv_has ls 3 [(0, .ref h0), (1, .int 1), (2, .int (nI j1))] → W p l e (kr 1) s m args below meth c H locs 0 0 (MQ below (qI G (fun (r : Int32) (u : ((Nat → Int32) × (Nat → Int32) × (Nat → Int32))) => r = r_X7_keep_1 pg kp ∧ u.1 = s_X7_keep_1_Z Z pg kp ∧ u.2.1 = s_X7_keep_1_kp pg kp ∧ u.2.2 = s_X7_keep_1_ik pg kp ik) (fun u => [(h0, .inr (7, cM u.1 q1 q2 q3 q4 q5 q6 q7 q8 q9 q10 q11 sd)), (q4, .inl (G.2.1, 55, .inl pg)), (q7, .inl (G.2.1, 110, .inl u.2.1)), (q8, .inl (G.2.2.1, 2, .inl u.2.2))]) A) args s 0 0 A) (F0 m 26 ls []) := by
    intro n1
    induction n1 with
    | zero =>
      intro j1 kp_1 hj1 hr_1 hZ_1 hkp_1 hik_1 H11 locs11 ls11 hP11 hD11 hS11 hl11
      refine lv_iload_n hx hb dX7_keep_26 rfl (lv_at hl11 2 rfl) ?_
      refine lv_bipush (v := 55) hx hb dX7_keep_27 (by decide) ?_
      refine lv_icmp_ge (x := nI j1) (y := 55) (tgt := 55) hx hb dX7_keep_29 (by decide) (fun (c3 : 55 ≤ nI j1) => ?_) (fun (c3 : ¬ (55 ≤ nI j1)) => absurd (kle_z rfl hj1) c3)
      refine lv_aload_n hx hb dX7_keep_55 rfl (lv_at hl11 0 rfl) ?_
      refine va_get (ci := 7) (v := .ref q4) (C := RX7) (T := TX7) (N := 22) hx hb ht inX7 hown hK.1 hP11 0 rfl rfl 7 (by decide) (ht _ q_673) (fun _ h9 => h9) rfl dX7_keep_56 ?_
      refine lv_bipush (v := 52) hx hb dX7_keep_59 (by decide) ?_
      refine k_iald (v := (pg 52)) kx hK hP11 1 rfl 52 rfl (by decide) (by decide) rfl dX7_keep_61 ?_
      have er : r_X7_keep_1 pg kp = pg 52 := by rw [hr_1, l_X7_keep_1_1_r]
      have e0 : s_X7_keep_1_Z Z pg kp = upd Z 0 0 := by rw [hZ_1, l_X7_keep_1_1_Z]
      have e1 : s_X7_keep_1_kp pg kp = kp_1 := by rw [hkp_1, l_X7_keep_1_1_kp]
      have e2 : s_X7_keep_1_ik pg kp ik = upd ik 1 1 := by rw [hik_1, l_X7_keep_1_1_ik]
      exact k_iret kx hK hP11 hD11 hS11 (u := (upd Z 0 0, kp_1, upd ik 1 1)) rfl ⟨er.symm, e0.symm, e1.symm, e2.symm⟩ dX7_keep_62
    | succ n1 ih1 =>
      intro j1 kp_1 hj1 hr_1 hZ_1 hkp_1 hik_1 H11 locs11 ls11 hP11 hD11 hS11 hl11
      refine lv_iload_n hx hb dX7_keep_26 rfl (lv_at hl11 2 rfl) ?_
      refine lv_bipush (v := 55) hx hb dX7_keep_27 (by decide) ?_
      refine lv_icmp_ge (x := nI j1) (y := 55) (tgt := 55) hx hb dX7_keep_29 (by decide) (fun (c4 : 55 ≤ nI j1) => absurd c4 (kle_s rfl hj1 (by decide))) (fun (c4 : ¬ (55 ≤ nI j1)) => ?_)
      refine lv_aload_n hx hb dX7_keep_32 rfl (lv_at hl11 0 rfl) ?_
      refine va_get (ci := 7) (v := .ref q7) (C := RX7) (T := TX7) (N := 22) hx hb ht inX7 hown hK.1 hP11 0 rfl rfl 11 (by decide) (ht _ q_677) (fun _ h9 => h9) rfl dX7_keep_33 ?_
      refine lv_bipush (v := 55) hx hb dX7_keep_36 (by decide) ?_
      refine lv_iload_n hx hb dX7_keep_38 rfl (lv_at hl11 1 rfl) ?_
      refine lv_imul hx hb dX7_keep_39 ?_
      refine k_top (y := 55) (by decide +kernel) ?_
      refine lv_iload_n hx hb dX7_keep_40 rfl (lv_at hl11 2 rfl) ?_
      refine lv_iadd hx hb dX7_keep_41 ?_
      refine lv_aload_n hx hb dX7_keep_42 rfl (lv_at hl11 0 rfl) ?_
      refine va_get (ci := 7) (v := .ref q4) (C := RX7) (T := TX7) (N := 22) hx hb ht inX7 hown hK.1 hP11 0 rfl rfl 7 (by decide) (ht _ q_673) (fun _ h9 => h9) rfl dX7_keep_43 ?_
      refine lv_iload_n hx hb dX7_keep_46 rfl (lv_at hl11 2 rfl) ?_
      refine k_iald (v := (pg j1)) kx hK hP11 1 rfl j1 rfl (by omega) (by decide) rfl dX7_keep_47 ?_
      refine k_iast kx hK hP11 hD11 hS11 2 rfl (55 + j1) (kadd rfl rfl) (by omega) (by decide) dX7_keep_48 (fun H12 locs12 hP12 hD12 hS12 => ?_)
      have hP13 : va_P G.1 vwCl ([(h0, .inr (7, cM (upd Z 0 0) q1 q2 q3 q4 q5 q6 q7 q8 q9 q10 q11 sd)), (q4, .inl (G.2.1, 55, .inl pg)), (q7, .inl (G.2.1, 110, .inl (upd kp_1 (55 + j1) (pg j1)))), (q8, .inl (G.2.2.1, 2, .inl (upd ik 1 1)))]) H12 := hP12
      have hD14 : va_D A ([(h0, .inr (7, cM (upd Z 0 0) q1 q2 q3 q4 q5 q6 q7 q8 q9 q10 q11 sd)), (q4, .inl (G.2.1, 55, .inl pg)), (q7, .inl (G.2.1, 110, .inl (upd kp_1 (55 + j1) (pg j1)))), (q8, .inl (G.2.2.1, 2, .inl (upd ik 1 1)))]) := hD12
      refine lv_iinc (v := nI (j1 + 1)) (lv' := [(2, .int (nI (j1 + 1))), (0, .ref h0), (1, .int 1)]) hx hb dX7_keep_49 hl11 (k := 2) rfl (nI_1 j1) (by decide) rfl (fun ls15 hl15 => ?_)
      refine lv_goto (tgt := 26) hx hb dX7_keep_52 (by decide) ?_
      have gr : r_X7_keep_1 pg kp = l_X7_keep_1_1_r pg n1 (j1 + 1) (upd kp_1 (55 + j1) (pg j1)) := by rw [hr_1, l_X7_keep_1_1_r]
      have gZ : s_X7_keep_1_Z Z pg kp = l_X7_keep_1_1_Z Z pg n1 (j1 + 1) (upd kp_1 (55 + j1) (pg j1)) := by rw [hZ_1, l_X7_keep_1_1_Z]
      have gkp : s_X7_keep_1_kp pg kp = l_X7_keep_1_1_kp pg n1 (j1 + 1) (upd kp_1 (55 + j1) (pg j1)) := by rw [hkp_1, l_X7_keep_1_1_kp]
      have gik : s_X7_keep_1_ik pg kp ik = l_X7_keep_1_1_ik pg ik n1 (j1 + 1) (upd kp_1 (55 + j1) (pg j1)) := by rw [hik_1, l_X7_keep_1_1_ik]
      exact ih1 (j1 + 1) (upd kp_1 (55 + j1) (pg j1)) (by omega) gr gZ gkp gik _ _ _ hP13 hD14 hS12 (lv_sub hl15 [1, 2, 0] rfl)
  have gr : r_X7_keep_1 pg kp = l_X7_keep_1_1_r pg 55 0 kp := by rw [r_X7_keep_1]
  have gZ : s_X7_keep_1_Z Z pg kp = l_X7_keep_1_1_Z Z pg 55 0 kp := by rw [s_X7_keep_1_Z]
  have gkp : s_X7_keep_1_kp pg kp = l_X7_keep_1_1_kp pg 55 0 kp := by rw [s_X7_keep_1_kp]
  have gik : s_X7_keep_1_ik pg kp ik = l_X7_keep_1_1_ik pg ik 55 0 kp := by rw [s_X7_keep_1_ik]
  exact lp1 55 0 kp (by omega) gr gZ gkp gik _ _ _ hP8 hD9 hS7 (lv_sub hl10 [1, 2, 0] rfl)

def l_X7_again_1_1_r (kp : Nat → Int32) : Nat → Nat → (Nat → Int32) → Int32
  | 0, j1, pg_1 => pg_1 52
  | n1 + 1, j1, pg_1 => l_X7_again_1_1_r kp n1 (j1 + 1) (upd pg_1 j1 (kp (55 + j1)))
def r_X7_again_1 (pg : Nat → Int32) (kp : Nat → Int32) (ik : Nat → Int32) : Int32 := if ik 1 = 0 then (-3) else l_X7_again_1_1_r kp 55 0 pg
def l_X7_again_1_1_Z (Z : Nat → Int32) (kp : Nat → Int32) : Nat → Nat → (Nat → Int32) → Nat → Int32
  | 0, j1, pg_1 => upd (upd Z 0 0) 10 0
  | n1 + 1, j1, pg_1 => l_X7_again_1_1_Z Z kp n1 (j1 + 1) (upd pg_1 j1 (kp (55 + j1)))
def s_X7_again_1_Z (Z : Nat → Int32) (pg : Nat → Int32) (kp : Nat → Int32) (ik : Nat → Int32) : Nat → Int32 := if ik 1 = 0 then (upd Z 0 0) else l_X7_again_1_1_Z Z kp 55 0 pg
def l_X7_again_1_1_pg (kp : Nat → Int32) : Nat → Nat → (Nat → Int32) → Nat → Int32
  | 0, j1, pg_1 => pg_1
  | n1 + 1, j1, pg_1 => l_X7_again_1_1_pg kp n1 (j1 + 1) (upd pg_1 j1 (kp (55 + j1)))
def s_X7_again_1_pg (pg : Nat → Int32) (kp : Nat → Int32) (ik : Nat → Int32) : Nat → Int32 := if ik 1 = 0 then pg else l_X7_again_1_1_pg kp 55 0 pg
set_option maxHeartbeats 4000000 in
set_option maxRecDepth 100000 in
theorem c_X7_again_1 (l : Launch) (G : kG) (Z : Nat → Int32) (sd : Int64) (h0 : Nat) (q1 : Nat) (q2 : Nat) (q3 : Nat) (q4 : Nat) (q5 : Nat) (q6 : Nat) (q7 : Nat) (q8 : Nat) (q9 : Nat) (q10 : Nat) (q11 : Nat) (pg : Nat → Int32) (kp : Nat → Int32) (ik : Nat → Int32) : cG l G yX7_again cX7_again 3 (some .int) 1 [.ref h0, .int 1] ([(h0, .inr (7, cM Z q1 q2 q3 q4 q5 q6 q7 q8 q9 q10 q11 sd)), (q4, .inl (G.2.1, 55, .inl pg)), (q7, .inl (G.2.1, 110, .inl kp)), (q8, .inl (G.2.2.1, 2, .inl ik))]) (qI G (fun (r : Int32) (u : ((Nat → Int32) × (Nat → Int32))) => r = r_X7_again_1 pg kp ik ∧ u.1 = s_X7_again_1_Z Z pg kp ik ∧ u.2 = s_X7_again_1_pg pg kp ik) (fun u => [(h0, .inr (7, cM u.1 q1 q2 q3 q4 q5 q6 q7 q8 q9 q10 q11 sd)), (q4, .inl (G.2.1, 55, .inl u.2)), (q7, .inl (G.2.1, 110, .inl kp)), (q8, .inl (G.2.2.1, 2, .inl ik))])) := by
  refine kintro (by decide) (Nat.le_of_ble_eq_true rfl) ?_
  intro p e s m args below meth c A ls kx hK hP hD hS hA hl
  have kx : kX p s m args meth c cX7_again 3 (some .int) RX7 := kx
  have hx := kx.1
  have hb := kx.2.1
  have hown := kx.2.2.2.2.1
  have ht := kx.2.2.2.2.2.2
  have hl : lv_has ls 3 [(0, .ref h0), (1, .int 1)] := hl
  refine lv_aload_n hx hb dX7_again_0 rfl (lv_at hl 0 rfl) ?_
  refine lv_iconst (v := 0) hx hb dX7_again_1 (by decide) ?_
  refine va_put (ci := 7) (v := .int 0) (ty := .int) (C := RX7) (T := TX7) (N := 22) hx hb ht inX7 tyX7 tyX7_ok nmX7 hown hK.1 hP hD hS 0 rfl rfl 0 (by decide) (ht _ q_666) (fun _ h9 => h9) rfl (by decide +kernel) rfl rfl (Nat.le_of_ble_eq_true rfl) dX7_again_2 (fun H1 locs1 hP1 hD1 hS1 => ?_)
  have hP2 : va_P G.1 vwCl ([(h0, .inr (7, cM (upd Z 0 0) q1 q2 q3 q4 q5 q6 q7 q8 q9 q10 q11 sd)), (q4, .inl (G.2.1, 55, .inl pg)), (q7, .inl (G.2.1, 110, .inl kp)), (q8, .inl (G.2.2.1, 2, .inl ik))]) H1 := hP1
  have hD3 : va_D A ([(h0, .inr (7, cM (upd Z 0 0) q1 q2 q3 q4 q5 q6 q7 q8 q9 q10 q11 sd)), (q4, .inl (G.2.1, 55, .inl pg)), (q7, .inl (G.2.1, 110, .inl kp)), (q8, .inl (G.2.2.1, 2, .inl ik))]) := hD1
  refine lv_iload_n hx hb dX7_again_5 rfl (lv_at hl 1 rfl) ?_
  refine lv_i2l (v := 1) hx hb dX7_again_6 (by decide +kernel) ?_
  refine lv_lconst (v := 0) hx hb dX7_again_7 (by decide) ?_
  refine lv_lconst (v := 1) hx hb dX7_again_8 (by decide) ?_
  refine k_calli (kRunS (As := [.long 1, .long 0, .long 1]) (rest := []) kx (c_X7_in_101 l G ) q_740 q_738 q_36 q_739 nX7_in ⟨Nat.le_of_ble_eq_true rfl, Nat.le_of_ble_eq_true rfl⟩ hK hP2 hD3 (kCtx_nil _) rfl hl.1 (Nat.le_of_ble_eq_true rfl) dX7_again_9 ⟨Nat.zero_le _, Nat.zero_le _⟩) hP2 hD3 hS1 hA (kCtx_nil _) (fun _ => rfl) (fun r1 _ H4 locs4 hw hP4 hD4 hS4 => ?_)
  have hr1 : 1 = r1 := (show r1 = 1 from hw).symm
  subst hr1
  have hP5 : va_P G.1 vwCl ([(h0, .inr (7, cM (upd Z 0 0) q1 q2 q3 q4 q5 q6 q7 q8 q9 q10 q11 sd)), (q4, .inl (G.2.1, 55, .inl pg)), (q7, .inl (G.2.1, 110, .inl kp)), (q8, .inl (G.2.2.1, 2, .inl ik))]) H4 := hP4
  have hD6 : va_D A ([(h0, .inr (7, cM (upd Z 0 0) q1 q2 q3 q4 q5 q6 q7 q8 q9 q10 q11 sd)), (q4, .inl (G.2.1, 55, .inl pg)), (q7, .inl (G.2.1, 110, .inl kp)), (q8, .inl (G.2.2.1, 2, .inl ik))]) := hD4
  refine lv_if_ne (x := 1) (tgt := 17) hx hb dX7_again_12 (by decide) (fun (c2 : ¬ (1 = 0)) => ?_) (fun (c2 : 1 = 0) => absurd c2 (by decide))
  refine lv_aload_n hx hb dX7_again_17 rfl (lv_at hl 0 rfl) ?_
  refine va_get (ci := 7) (v := .ref q8) (C := RX7) (T := TX7) (N := 22) hx hb ht inX7 hown hK.1 hP5 0 rfl rfl 12 (by decide) (ht _ q_678) (fun _ h9 => h9) rfl dX7_again_18 ?_
  refine lv_iload_n hx hb dX7_again_21 rfl (lv_at hl 1 rfl) ?_
  refine k_zald (v := (ik 1)) kx hK hP5 3 rfl 1 rfl (by decide) (by decide) rfl dX7_again_22 ?_
  refine lv_if_ne (x := ik 1) (tgt := 29) hx hb dX7_again_23 (by decide) (fun (c3 : ¬ (ik 1 = 0)) => ?_) (fun (c3 : ik 1 = 0) => ?_)
  · skip
    refine lv_iconst (v := 0) hx hb dX7_again_29 (by decide) ?_
    refine lv_istore_n (lv' := [(2, .int 0), (0, .ref h0), (1, .int 1)]) hx hb dX7_again_30 rfl hl (by decide) rfl (fun ls7 hl7 => ?_)
    have lp1 : ∀ (n1 j1 : Nat) (pg_1 : Nat → Int32), j1 + n1 = 55 → (hr_1 : r_X7_again_1 pg kp ik = l_X7_again_1_1_r kp n1 j1 pg_1) → (hZ_1 : s_X7_again_1_Z Z pg kp ik = l_X7_again_1_1_Z Z kp n1 j1 pg_1) → (hpg_1 : s_X7_again_1_pg pg kp ik = l_X7_again_1_1_pg kp n1 j1 pg_1) → ∀ (H : Heap) (locs : List Loc) (ls : Array Slot), va_P G.1 vwCl ([(h0, .inr (7, cM (upd Z 0 0) q1 q2 q3 q4 q5 q6 q7 q8 q9 q10 q11 sd)), (q4, .inl (G.2.1, 55, .inl pg_1)), (q7, .inl (G.2.1, 110, .inl kp)), (q8, .inl (G.2.2.1, 2, .inl ik))]) H → va_D A ([(h0, .inr (7, cM (upd Z 0 0) q1 q2 q3 q4 q5 q6 q7 q8 q9 q10 q11 sd)), (q4, .inl (G.2.1, 55, .inl pg_1)), (q7, .inl (G.2.1, 110, .inl kp)), (q8, .inl (G.2.2.1, 2, .inl ik))]) → va_S A s.heap H locs → lv_has ls 3 [(0, .ref h0), (1, .int 1), (2, .int (nI j1))] → W p l e (kr 1) s m args below meth c H locs 0 0 (MQ below (qI G (fun (r : Int32) (u : ((Nat → Int32) × (Nat → Int32))) => r = r_X7_again_1 pg kp ik ∧ u.1 = s_X7_again_1_Z Z pg kp ik ∧ u.2 = s_X7_again_1_pg pg kp ik) (fun u => [(h0, .inr (7, cM u.1 q1 q2 q3 q4 q5 q6 q7 q8 q9 q10 q11 sd)), (q4, .inl (G.2.1, 55, .inl u.2)), (q7, .inl (G.2.1, 110, .inl kp)), (q8, .inl (G.2.2.1, 2, .inl ik))]) A) args s 0 0 A) (F0 m 31 ls []) := by
      intro n1
      induction n1 with
      | zero =>
        intro j1 pg_1 hj1 hr_1 hZ_1 hpg_1 H8 locs8 ls8 hP8 hD8 hS8 hl8
        refine lv_iload_n hx hb dX7_again_31 rfl (lv_at hl8 2 rfl) ?_
        refine lv_bipush (v := 55) hx hb dX7_again_32 (by decide) ?_
        refine lv_icmp_ge (x := nI j1) (y := 55) (tgt := 60) hx hb dX7_again_34 (by decide) (fun (c4 : 55 ≤ nI j1) => ?_) (fun (c4 : ¬ (55 ≤ nI j1)) => absurd (kle_z rfl hj1) c4)
        refine lv_aload_n hx hb dX7_again_60 rfl (lv_at hl8 0 rfl) ?_
        refine lv_iconst (v := 0) hx hb dX7_again_61 (by decide) ?_
        refine va_put (ci := 7) (v := .int 0) (ty := .int) (C := RX7) (T := TX7) (N := 22) hx hb ht inX7 tyX7 tyX7_ok nmX7 hown hK.1 hP8 hD8 hS8 0 rfl rfl 10 (by decide) (ht _ q_676) (fun _ h9 => h9) rfl (by decide +kernel) rfl rfl (Nat.le_of_ble_eq_true rfl) dX7_again_62 (fun H9 locs9 hP9 hD9 hS9 => ?_)
        have hP10 : va_P G.1 vwCl ([(h0, .inr (7, cM (upd (upd Z 0 0) 10 0) q1 q2 q3 q4 q5 q6 q7 q8 q9 q10 q11 sd)), (q4, .inl (G.2.1, 55, .inl pg_1)), (q7, .inl (G.2.1, 110, .inl kp)), (q8, .inl (G.2.2.1, 2, .inl ik))]) H9 := hP9
        have hD11 : va_D A ([(h0, .inr (7, cM (upd (upd Z 0 0) 10 0) q1 q2 q3 q4 q5 q6 q7 q8 q9 q10 q11 sd)), (q4, .inl (G.2.1, 55, .inl pg_1)), (q7, .inl (G.2.1, 110, .inl kp)), (q8, .inl (G.2.2.1, 2, .inl ik))]) := hD9
        refine lv_aload_n hx hb dX7_again_65 rfl (lv_at hl8 0 rfl) ?_
        refine va_get (ci := 7) (v := .ref q4) (C := RX7) (T := TX7) (N := 22) hx hb ht inX7 hown hK.1 hP10 0 rfl rfl 7 (by decide) (ht _ q_673) (fun _ h9 => h9) rfl dX7_again_66 ?_
        refine lv_bipush (v := 52) hx hb dX7_again_69 (by decide) ?_
        refine k_iald (v := (pg_1 52)) kx hK hP10 1 rfl 52 rfl (by decide) (by decide) rfl dX7_again_71 ?_
        have er : r_X7_again_1 pg kp ik = pg_1 52 := by rw [hr_1, l_X7_again_1_1_r]
        have e0 : s_X7_again_1_Z Z pg kp ik = upd (upd Z 0 0) 10 0 := by rw [hZ_1, l_X7_again_1_1_Z]
        have e1 : s_X7_again_1_pg pg kp ik = pg_1 := by rw [hpg_1, l_X7_again_1_1_pg]
        exact k_iret kx hK hP10 hD11 hS9 (u := (upd (upd Z 0 0) 10 0, pg_1)) rfl ⟨er.symm, e0.symm, e1.symm⟩ dX7_again_72
      | succ n1 ih1 =>
        intro j1 pg_1 hj1 hr_1 hZ_1 hpg_1 H8 locs8 ls8 hP8 hD8 hS8 hl8
        refine lv_iload_n hx hb dX7_again_31 rfl (lv_at hl8 2 rfl) ?_
        refine lv_bipush (v := 55) hx hb dX7_again_32 (by decide) ?_
        refine lv_icmp_ge (x := nI j1) (y := 55) (tgt := 60) hx hb dX7_again_34 (by decide) (fun (c5 : 55 ≤ nI j1) => absurd c5 (kle_s rfl hj1 (by decide))) (fun (c5 : ¬ (55 ≤ nI j1)) => ?_)
        refine lv_aload_n hx hb dX7_again_37 rfl (lv_at hl8 0 rfl) ?_
        refine va_get (ci := 7) (v := .ref q4) (C := RX7) (T := TX7) (N := 22) hx hb ht inX7 hown hK.1 hP8 0 rfl rfl 7 (by decide) (ht _ q_673) (fun _ h9 => h9) rfl dX7_again_38 ?_
        refine lv_iload_n hx hb dX7_again_41 rfl (lv_at hl8 2 rfl) ?_
        refine lv_aload_n hx hb dX7_again_42 rfl (lv_at hl8 0 rfl) ?_
        refine va_get (ci := 7) (v := .ref q7) (C := RX7) (T := TX7) (N := 22) hx hb ht inX7 hown hK.1 hP8 0 rfl rfl 11 (by decide) (ht _ q_677) (fun _ h9 => h9) rfl dX7_again_43 ?_
        refine lv_bipush (v := 55) hx hb dX7_again_46 (by decide) ?_
        refine lv_iload_n hx hb dX7_again_48 rfl (lv_at hl8 1 rfl) ?_
        refine lv_imul hx hb dX7_again_49 ?_
        refine k_top (y := 55) (by decide +kernel) ?_
        refine lv_iload_n hx hb dX7_again_50 rfl (lv_at hl8 2 rfl) ?_
        refine lv_iadd hx hb dX7_again_51 ?_
        refine k_iald (v := (kp (55 + j1))) kx hK hP8 2 rfl (55 + j1) (kadd rfl rfl) (by omega) (by decide) rfl dX7_again_52 ?_
        refine k_iast kx hK hP8 hD8 hS8 1 rfl j1 rfl (by omega) (by decide) dX7_again_53 (fun H12 locs12 hP12 hD12 hS12 => ?_)
        have hP13 : va_P G.1 vwCl ([(h0, .inr (7, cM (upd Z 0 0) q1 q2 q3 q4 q5 q6 q7 q8 q9 q10 q11 sd)), (q4, .inl (G.2.1, 55, .inl (upd pg_1 j1 (kp (55 + j1))))), (q7, .inl (G.2.1, 110, .inl kp)), (q8, .inl (G.2.2.1, 2, .inl ik))]) H12 := hP12
        have hD14 : va_D A ([(h0, .inr (7, cM (upd Z 0 0) q1 q2 q3 q4 q5 q6 q7 q8 q9 q10 q11 sd)), (q4, .inl (G.2.1, 55, .inl (upd pg_1 j1 (kp (55 + j1))))), (q7, .inl (G.2.1, 110, .inl kp)), (q8, .inl (G.2.2.1, 2, .inl ik))]) := hD12
        refine lv_iinc (v := nI (j1 + 1)) (lv' := [(2, .int (nI (j1 + 1))), (0, .ref h0), (1, .int 1)]) hx hb dX7_again_54 hl8 (k := 2) rfl (nI_1 j1) (by decide) rfl (fun ls15 hl15 => ?_)
        refine lv_goto (tgt := 31) hx hb dX7_again_57 (by decide) ?_
        have gr : r_X7_again_1 pg kp ik = l_X7_again_1_1_r kp n1 (j1 + 1) (upd pg_1 j1 (kp (55 + j1))) := by rw [hr_1, l_X7_again_1_1_r]
        have gZ : s_X7_again_1_Z Z pg kp ik = l_X7_again_1_1_Z Z kp n1 (j1 + 1) (upd pg_1 j1 (kp (55 + j1))) := by rw [hZ_1, l_X7_again_1_1_Z]
        have gpg : s_X7_again_1_pg pg kp ik = l_X7_again_1_1_pg kp n1 (j1 + 1) (upd pg_1 j1 (kp (55 + j1))) := by rw [hpg_1, l_X7_again_1_1_pg]
        exact ih1 (j1 + 1) (upd pg_1 j1 (kp (55 + j1))) (by omega) gr gZ gpg _ _ _ hP13 hD14 hS12 (lv_sub hl15 [1, 2, 0] rfl)
    have gr : r_X7_again_1 pg kp ik = l_X7_again_1_1_r kp 55 0 pg := by rw [r_X7_again_1, if_neg c3]
    have gZ : s_X7_again_1_Z Z pg kp ik = l_X7_again_1_1_Z Z kp 55 0 pg := by rw [s_X7_again_1_Z, if_neg c3]
    have gpg : s_X7_again_1_pg pg kp ik = l_X7_again_1_1_pg kp 55 0 pg := by rw [s_X7_again_1_pg, if_neg c3]
    exact lp1 55 0 pg (by omega) gr gZ gpg _ _ _ hP5 hD6 hS4 (lv_sub hl7 [1, 2, 0] rfl)
  · skip
    refine lv_bipush (v := (-3)) hx hb dX7_again_26 (by decide) ?_
    have er : r_X7_again_1 pg kp ik = (-3) := by rw [r_X7_again_1, if_pos c3]
    have e0 : s_X7_again_1_Z Z pg kp ik = upd Z 0 0 := by rw [s_X7_again_1_Z, if_pos c3]
    have e1 : s_X7_again_1_pg pg kp ik = pg := by rw [s_X7_again_1_pg, if_pos c3]
    exact k_iret kx hK hP5 hD6 hS4 (u := (upd Z 0 0, pg)) rfl ⟨er.symm, e0.symm, e1.symm⟩ dX7_again_28

set_option maxHeartbeats 4000000 in
set_option maxRecDepth 100000 in
theorem c_X7_keep_x (l : Launch) (G : kG) (Z : Nat → Int32) (sd : Int64) (h0 : Nat) (q1 : Nat) (q2 : Nat) (q3 : Nat) (q4 : Nat) (q5 : Nat) (q6 : Nat) (q7 : Nat) (q8 : Nat) (q9 : Nat) (q10 : Nat) (q11 : Nat) (p0 : Int32) (h9 : ¬ p0 = 0) (h8 : ¬ p0 = 1) : cG l G yX7_keep cX7_keep 3 (some .int) 1 [.ref h0, .int p0] ([(h0, .inr (7, cM Z q1 q2 q3 q4 q5 q6 q7 q8 q9 q10 q11 sd))]) (qI G (fun (r : Int32) (_ : Unit) => r = (-1)) (fun _ => [(h0, .inr (7, cM (upd Z 0 0) q1 q2 q3 q4 q5 q6 q7 q8 q9 q10 q11 sd))])) := by
  refine kintro (by decide) (Nat.le_of_ble_eq_true rfl) ?_
  intro p e s m args below meth c A ls kx hK hP hD hS hA hl
  have kx : kX p s m args meth c cX7_keep 3 (some .int) RX7 := kx
  have hx := kx.1
  have hb := kx.2.1
  have hown := kx.2.2.2.2.1
  have ht := kx.2.2.2.2.2.2
  have hl : lv_has ls 3 [(0, .ref h0), (1, .int p0)] := hl
  refine lv_aload_n hx hb dX7_keep_0 rfl (lv_at hl 0 rfl) ?_
  refine lv_iconst (v := 0) hx hb dX7_keep_1 (by decide) ?_
  refine va_put (ci := 7) (v := .int 0) (ty := .int) (C := RX7) (T := TX7) (N := 22) hx hb ht inX7 tyX7 tyX7_ok nmX7 hown hK.1 hP hD hS 0 rfl rfl 0 (by decide) (ht _ q_666) (fun _ h9 => h9) rfl (by decide +kernel) rfl rfl (Nat.le_of_ble_eq_true rfl) dX7_keep_2 (fun H1 locs1 hP1 hD1 hS1 => ?_)
  have hP2 : va_P G.1 vwCl ([(h0, .inr (7, cM (upd Z 0 0) q1 q2 q3 q4 q5 q6 q7 q8 q9 q10 q11 sd))]) H1 := hP1
  have hD3 : va_D A ([(h0, .inr (7, cM (upd Z 0 0) q1 q2 q3 q4 q5 q6 q7 q8 q9 q10 q11 sd))]) := hD1
  refine lv_iload_n hx hb dX7_keep_5 rfl (lv_at hl 1 rfl) ?_
  refine lv_i2l (v := p0.toInt64) hx hb dX7_keep_6 rfl ?_
  refine lv_lconst (v := 0) hx hb dX7_keep_7 (by decide) ?_
  refine lv_lconst (v := 1) hx hb dX7_keep_8 (by decide) ?_
  refine k_calli (kRunS (As := [.long p0.toInt64, .long 0, .long 1]) (rest := []) kx (c_X7_in l G p0.toInt64 0 1) q_740 q_738 q_36 q_739 nX7_in ⟨Nat.le_of_ble_eq_true rfl, Nat.le_of_ble_eq_true rfl⟩ hK hP2 hD3 (kCtx_nil _) rfl hl.1 (Nat.le_of_ble_eq_true rfl) dX7_keep_9 ⟨Nat.zero_le _, Nat.zero_le _⟩) hP2 hD3 hS1 hA (kCtx_nil _) (fun _ => rfl) (fun r1 _ H4 locs4 hw hP4 hD4 hS4 => ?_)
  have hr1 : r_X7_in p0.toInt64 0 1 = r1 := (show r1 = r_X7_in p0.toInt64 0 1 from hw).symm
  have hP5 : va_P G.1 vwCl ([(h0, .inr (7, cM (upd Z 0 0) q1 q2 q3 q4 q5 q6 q7 q8 q9 q10 q11 sd))]) H4 := hP4
  have hD6 : va_D A ([(h0, .inr (7, cM (upd Z 0 0) q1 q2 q3 q4 q5 q6 q7 q8 q9 q10 q11 sd))]) := hD4
  refine lv_if_ne (x := r1) (tgt := 17) hx hb dX7_keep_12 (by decide) (fun (c2 : ¬ (r1 = 0)) => absurd (knoend h9 h8 hr1) c2) (fun (c2 : r1 = 0) => ?_)
  refine lv_iconst (v := (-1)) hx hb dX7_keep_15 (by decide) ?_
  exact k_iret kx hK hP5 hD6 hS4 (u := ()) rfl rfl dX7_keep_16

set_option maxHeartbeats 4000000 in
set_option maxRecDepth 100000 in
theorem c_X7_again_x (l : Launch) (G : kG) (Z : Nat → Int32) (sd : Int64) (h0 : Nat) (q1 : Nat) (q2 : Nat) (q3 : Nat) (q4 : Nat) (q5 : Nat) (q6 : Nat) (q7 : Nat) (q8 : Nat) (q9 : Nat) (q10 : Nat) (q11 : Nat) (p0 : Int32) (h9 : ¬ p0 = 0) (h8 : ¬ p0 = 1) : cG l G yX7_again cX7_again 3 (some .int) 1 [.ref h0, .int p0] ([(h0, .inr (7, cM Z q1 q2 q3 q4 q5 q6 q7 q8 q9 q10 q11 sd))]) (qI G (fun (r : Int32) (_ : Unit) => r = (-1)) (fun _ => [(h0, .inr (7, cM (upd Z 0 0) q1 q2 q3 q4 q5 q6 q7 q8 q9 q10 q11 sd))])) := by
  refine kintro (by decide) (Nat.le_of_ble_eq_true rfl) ?_
  intro p e s m args below meth c A ls kx hK hP hD hS hA hl
  have kx : kX p s m args meth c cX7_again 3 (some .int) RX7 := kx
  have hx := kx.1
  have hb := kx.2.1
  have hown := kx.2.2.2.2.1
  have ht := kx.2.2.2.2.2.2
  have hl : lv_has ls 3 [(0, .ref h0), (1, .int p0)] := hl
  refine lv_aload_n hx hb dX7_again_0 rfl (lv_at hl 0 rfl) ?_
  refine lv_iconst (v := 0) hx hb dX7_again_1 (by decide) ?_
  refine va_put (ci := 7) (v := .int 0) (ty := .int) (C := RX7) (T := TX7) (N := 22) hx hb ht inX7 tyX7 tyX7_ok nmX7 hown hK.1 hP hD hS 0 rfl rfl 0 (by decide) (ht _ q_666) (fun _ h9 => h9) rfl (by decide +kernel) rfl rfl (Nat.le_of_ble_eq_true rfl) dX7_again_2 (fun H1 locs1 hP1 hD1 hS1 => ?_)
  have hP2 : va_P G.1 vwCl ([(h0, .inr (7, cM (upd Z 0 0) q1 q2 q3 q4 q5 q6 q7 q8 q9 q10 q11 sd))]) H1 := hP1
  have hD3 : va_D A ([(h0, .inr (7, cM (upd Z 0 0) q1 q2 q3 q4 q5 q6 q7 q8 q9 q10 q11 sd))]) := hD1
  refine lv_iload_n hx hb dX7_again_5 rfl (lv_at hl 1 rfl) ?_
  refine lv_i2l (v := p0.toInt64) hx hb dX7_again_6 rfl ?_
  refine lv_lconst (v := 0) hx hb dX7_again_7 (by decide) ?_
  refine lv_lconst (v := 1) hx hb dX7_again_8 (by decide) ?_
  refine k_calli (kRunS (As := [.long p0.toInt64, .long 0, .long 1]) (rest := []) kx (c_X7_in l G p0.toInt64 0 1) q_740 q_738 q_36 q_739 nX7_in ⟨Nat.le_of_ble_eq_true rfl, Nat.le_of_ble_eq_true rfl⟩ hK hP2 hD3 (kCtx_nil _) rfl hl.1 (Nat.le_of_ble_eq_true rfl) dX7_again_9 ⟨Nat.zero_le _, Nat.zero_le _⟩) hP2 hD3 hS1 hA (kCtx_nil _) (fun _ => rfl) (fun r1 _ H4 locs4 hw hP4 hD4 hS4 => ?_)
  have hr1 : r_X7_in p0.toInt64 0 1 = r1 := (show r1 = r_X7_in p0.toInt64 0 1 from hw).symm
  have hP5 : va_P G.1 vwCl ([(h0, .inr (7, cM (upd Z 0 0) q1 q2 q3 q4 q5 q6 q7 q8 q9 q10 q11 sd))]) H4 := hP4
  have hD6 : va_D A ([(h0, .inr (7, cM (upd Z 0 0) q1 q2 q3 q4 q5 q6 q7 q8 q9 q10 q11 sd))]) := hD4
  refine lv_if_ne (x := r1) (tgt := 17) hx hb dX7_again_12 (by decide) (fun (c2 : ¬ (r1 = 0)) => absurd (knoend h9 h8 hr1) c2) (fun (c2 : r1 = 0) => ?_)
  refine lv_iconst (v := (-1)) hx hb dX7_again_15 (by decide) ?_
  exact k_iret kx hK hP5 hD6 hS4 (u := ()) rfl rfl dX7_again_16

def r_X7_count (Z : Nat → Int32) (pg : Nat → Int32) (p0 : Int32) : Int32 := if p0 = 0 then (Z 2) else if p0 = 1 then (pg 52) else if p0 = 2 then (pg 53) else if p0 = 3 then (pg 54) else if p0 = 4 then (Z 10) else if p0 = 5 then (Z 13) else (-2)
def s_X7_count_Z (Z : Nat → Int32) (p0 : Int32) : Nat → Int32 := if p0 = 0 then (upd Z 0 0) else if p0 = 1 then (upd Z 0 0) else if p0 = 2 then (upd Z 0 0) else if p0 = 3 then (upd Z 0 0) else if p0 = 4 then (upd Z 0 0) else if p0 = 5 then (upd Z 0 0) else upd Z 0 0
set_option maxHeartbeats 4000000 in
set_option maxRecDepth 100000 in
theorem c_X7_count (l : Launch) (G : kG) (Z : Nat → Int32) (sd : Int64) (h0 : Nat) (q1 : Nat) (q2 : Nat) (q3 : Nat) (q4 : Nat) (q5 : Nat) (q6 : Nat) (q7 : Nat) (q8 : Nat) (q9 : Nat) (q10 : Nat) (q11 : Nat) (pg : Nat → Int32) (p0 : Int32) : cG l G yX7_count cX7_count 2 (some .int) 0 [.ref h0, .int p0] ([(h0, .inr (7, cM Z q1 q2 q3 q4 q5 q6 q7 q8 q9 q10 q11 sd)), (q4, .inl (G.2.1, 55, .inl pg))]) (qI G (fun (r : Int32) (u : (Nat → Int32)) => r = r_X7_count Z pg p0 ∧ u = s_X7_count_Z Z p0) (fun u => [(h0, .inr (7, cM u q1 q2 q3 q4 q5 q6 q7 q8 q9 q10 q11 sd)), (q4, .inl (G.2.1, 55, .inl pg))])) := by
  refine kintro (by decide) (Nat.le_of_ble_eq_true rfl) ?_
  intro p e s m args below meth c A ls kx hK hP hD hS hA hl
  have kx : kX p s m args meth c cX7_count 2 (some .int) RX7 := kx
  have hx := kx.1
  have hb := kx.2.1
  have hown := kx.2.2.2.2.1
  have ht := kx.2.2.2.2.2.2
  have hl : lv_has ls 2 [(0, .ref h0), (1, .int p0)] := hl
  refine lv_aload_n hx hb dX7_count_0 rfl (lv_at hl 0 rfl) ?_
  refine lv_iconst (v := 0) hx hb dX7_count_1 (by decide) ?_
  refine va_put (ci := 7) (v := .int 0) (ty := .int) (C := RX7) (T := TX7) (N := 22) hx hb ht inX7 tyX7 tyX7_ok nmX7 hown hK.1 hP hD hS 0 rfl rfl 0 (by decide) (ht _ q_666) (fun _ h9 => h9) rfl (by decide +kernel) rfl rfl (Nat.le_of_ble_eq_true rfl) dX7_count_2 (fun H1 locs1 hP1 hD1 hS1 => ?_)
  have hP2 : va_P G.1 vwCl ([(h0, .inr (7, cM (upd Z 0 0) q1 q2 q3 q4 q5 q6 q7 q8 q9 q10 q11 sd)), (q4, .inl (G.2.1, 55, .inl pg))]) H1 := hP1
  have hD3 : va_D A ([(h0, .inr (7, cM (upd Z 0 0) q1 q2 q3 q4 q5 q6 q7 q8 q9 q10 q11 sd)), (q4, .inl (G.2.1, 55, .inl pg))]) := hD1
  refine lv_iload_n hx hb dX7_count_5 rfl (lv_at hl 1 rfl) ?_
  by_cases c1 : p0 = 0
  · skip
    refine lv_tableIn (off := 38) (tgt := 44) hx hb dX7_count_6 (by rw [c1]; decide) (by rw [c1]; decide) (by rw [c1]; rfl) (by decide) ?_
    refine lv_aload_n hx hb dX7_count_44 rfl (lv_at hl 0 rfl) ?_
    refine va_get (ci := 7) (v := .int (Z 2)) (C := RX7) (T := TX7) (N := 22) hx hb ht inX7 hown hK.1 hP2 0 rfl rfl 2 (by decide) (ht _ q_668) (fun _ h9 => h9) rfl dX7_count_45 ?_
    have er : r_X7_count Z pg p0 = Z 2 := by rw [r_X7_count, if_pos c1]
    have e0 : s_X7_count_Z Z p0 = upd Z 0 0 := by rw [s_X7_count_Z, if_pos c1]
    exact k_iret kx hK hP2 hD3 hS1 (u := upd Z 0 0) rfl ⟨er.symm, e0.symm⟩ dX7_count_48
  · skip
    by_cases c2 : p0 = 1
    · skip
      refine lv_tableIn (off := 43) (tgt := 49) hx hb dX7_count_6 (by rw [c2]; decide) (by rw [c2]; decide) (by rw [c2]; rfl) (by decide) ?_
      refine lv_aload_n hx hb dX7_count_49 rfl (lv_at hl 0 rfl) ?_
      refine va_get (ci := 7) (v := .ref q4) (C := RX7) (T := TX7) (N := 22) hx hb ht inX7 hown hK.1 hP2 0 rfl rfl 7 (by decide) (ht _ q_673) (fun _ h9 => h9) rfl dX7_count_50 ?_
      refine lv_bipush (v := 52) hx hb dX7_count_53 (by decide) ?_
      refine k_iald (v := (pg 52)) kx hK hP2 1 rfl 52 rfl (by decide) (by decide) rfl dX7_count_55 ?_
      have er : r_X7_count Z pg p0 = pg 52 := by rw [r_X7_count, if_neg c1, if_pos c2]
      have e0 : s_X7_count_Z Z p0 = upd Z 0 0 := by rw [s_X7_count_Z, if_neg c1, if_pos c2]
      exact k_iret kx hK hP2 hD3 hS1 (u := upd Z 0 0) rfl ⟨er.symm, e0.symm⟩ dX7_count_56
    · skip
      by_cases c3 : p0 = 2
      · skip
        refine lv_tableIn (off := 51) (tgt := 57) hx hb dX7_count_6 (by rw [c3]; decide) (by rw [c3]; decide) (by rw [c3]; rfl) (by decide) ?_
        refine lv_aload_n hx hb dX7_count_57 rfl (lv_at hl 0 rfl) ?_
        refine va_get (ci := 7) (v := .ref q4) (C := RX7) (T := TX7) (N := 22) hx hb ht inX7 hown hK.1 hP2 0 rfl rfl 7 (by decide) (ht _ q_673) (fun _ h9 => h9) rfl dX7_count_58 ?_
        refine lv_bipush (v := 53) hx hb dX7_count_61 (by decide) ?_
        refine k_iald (v := (pg 53)) kx hK hP2 1 rfl 53 rfl (by decide) (by decide) rfl dX7_count_63 ?_
        have er : r_X7_count Z pg p0 = pg 53 := by rw [r_X7_count, if_neg c1, if_neg c2, if_pos c3]
        have e0 : s_X7_count_Z Z p0 = upd Z 0 0 := by rw [s_X7_count_Z, if_neg c1, if_neg c2, if_pos c3]
        exact k_iret kx hK hP2 hD3 hS1 (u := upd Z 0 0) rfl ⟨er.symm, e0.symm⟩ dX7_count_64
      · skip
        by_cases c4 : p0 = 3
        · skip
          refine lv_tableIn (off := 59) (tgt := 65) hx hb dX7_count_6 (by rw [c4]; decide) (by rw [c4]; decide) (by rw [c4]; rfl) (by decide) ?_
          refine lv_aload_n hx hb dX7_count_65 rfl (lv_at hl 0 rfl) ?_
          refine va_get (ci := 7) (v := .ref q4) (C := RX7) (T := TX7) (N := 22) hx hb ht inX7 hown hK.1 hP2 0 rfl rfl 7 (by decide) (ht _ q_673) (fun _ h9 => h9) rfl dX7_count_66 ?_
          refine lv_bipush (v := 54) hx hb dX7_count_69 (by decide) ?_
          refine k_iald (v := (pg 54)) kx hK hP2 1 rfl 54 rfl (by decide) (by decide) rfl dX7_count_71 ?_
          have er : r_X7_count Z pg p0 = pg 54 := by rw [r_X7_count, if_neg c1, if_neg c2, if_neg c3, if_pos c4]
          have e0 : s_X7_count_Z Z p0 = upd Z 0 0 := by rw [s_X7_count_Z, if_neg c1, if_neg c2, if_neg c3, if_pos c4]
          exact k_iret kx hK hP2 hD3 hS1 (u := upd Z 0 0) rfl ⟨er.symm, e0.symm⟩ dX7_count_72
        · skip
          by_cases c5 : p0 = 4
          · skip
            refine lv_tableIn (off := 67) (tgt := 73) hx hb dX7_count_6 (by rw [c5]; decide) (by rw [c5]; decide) (by rw [c5]; rfl) (by decide) ?_
            refine lv_aload_n hx hb dX7_count_73 rfl (lv_at hl 0 rfl) ?_
            refine va_get (ci := 7) (v := .int (Z 10)) (C := RX7) (T := TX7) (N := 22) hx hb ht inX7 hown hK.1 hP2 0 rfl rfl 10 (by decide) (ht _ q_676) (fun _ h9 => h9) rfl dX7_count_74 ?_
            have er : r_X7_count Z pg p0 = Z 10 := by rw [r_X7_count, if_neg c1, if_neg c2, if_neg c3, if_neg c4, if_pos c5]
            have e0 : s_X7_count_Z Z p0 = upd Z 0 0 := by rw [s_X7_count_Z, if_neg c1, if_neg c2, if_neg c3, if_neg c4, if_pos c5]
            exact k_iret kx hK hP2 hD3 hS1 (u := upd Z 0 0) rfl ⟨er.symm, e0.symm⟩ dX7_count_77
          · skip
            by_cases c6 : p0 = 5
            · skip
              refine lv_tableIn (off := 72) (tgt := 78) hx hb dX7_count_6 (by rw [c6]; decide) (by rw [c6]; decide) (by rw [c6]; rfl) (by decide) ?_
              refine lv_aload_n hx hb dX7_count_78 rfl (lv_at hl 0 rfl) ?_
              refine va_get (ci := 7) (v := .int (Z 13)) (C := RX7) (T := TX7) (N := 22) hx hb ht inX7 hown hK.1 hP2 0 rfl rfl 13 (by decide) (ht _ q_679) (fun _ h9 => h9) rfl dX7_count_79 ?_
              have er : r_X7_count Z pg p0 = Z 13 := by rw [r_X7_count, if_neg c1, if_neg c2, if_neg c3, if_neg c4, if_neg c5, if_pos c6]
              have e0 : s_X7_count_Z Z p0 = upd Z 0 0 := by rw [s_X7_count_Z, if_neg c1, if_neg c2, if_neg c3, if_neg c4, if_neg c5, if_pos c6]
              exact k_iret kx hK hP2 hD3 hS1 (u := upd Z 0 0) rfl ⟨er.symm, e0.symm⟩ dX7_count_82
            · skip
              have nc1 := lv_neT (a := 0) c1 (by decide)
              have nc2 := lv_neT (a := 1) c2 (by decide)
              have nc3 := lv_neT (a := 2) c3 (by decide)
              have nc4 := lv_neT (a := 3) c4 (by decide)
              have nc5 := lv_neT (a := 4) c5 (by decide)
              have nc6 := lv_neT (a := 5) c6 (by decide)
              refine lv_tableOut (tgt := 83) hx hb dX7_count_6 (by omega) (by decide) ?_
              refine lv_bipush (v := (-2)) hx hb dX7_count_83 (by decide) ?_
              have er : r_X7_count Z pg p0 = (-2) := by rw [r_X7_count, if_neg c1, if_neg c2, if_neg c3, if_neg c4, if_neg c5, if_neg c6]
              have e0 : s_X7_count_Z Z p0 = upd Z 0 0 := by rw [s_X7_count_Z, if_neg c1, if_neg c2, if_neg c3, if_neg c4, if_neg c5, if_neg c6]
              exact k_iret kx hK hP2 hD3 hS1 (u := upd Z 0 0) rfl ⟨er.symm, e0.symm⟩ dX7_count_85

set_option maxHeartbeats 4000000 in
set_option maxRecDepth 100000 in
theorem c_X7_seed (l : Launch) (G : kG) (Z : Nat → Int32) (sd : Int64) (h0 : Nat) (q1 : Nat) (q2 : Nat) (q3 : Nat) (q4 : Nat) (q5 : Nat) (q6 : Nat) (q7 : Nat) (q8 : Nat) (q9 : Nat) (q10 : Nat) (q11 : Nat) (p0 : Int64) : cG l G yX7_seed cX7_seed 5 (some .long) 0 [.ref h0, .long p0] ([(h0, .inr (7, cM Z q1 q2 q3 q4 q5 q6 q7 q8 q9 q10 q11 sd))]) (qL G (fun (r : Int64) (_ : Unit) => r = sd) (fun _ => [(h0, .inr (7, cM (upd Z 0 0) q1 q2 q3 q4 q5 q6 q7 q8 q9 q10 q11 p0))])) := by
  refine kintro (by decide) (Nat.le_of_ble_eq_true rfl) ?_
  intro p e s m args below meth c A ls kx hK hP hD hS hA hl
  have kx : kX p s m args meth c cX7_seed 5 (some .long) RX7 := kx
  have hx := kx.1
  have hb := kx.2.1
  have hown := kx.2.2.2.2.1
  have ht := kx.2.2.2.2.2.2
  have hl : lv_has ls 5 [(0, .ref h0), (1, .long p0)] := hl
  refine lv_aload_n hx hb dX7_seed_0 rfl (lv_at hl 0 rfl) ?_
  refine lv_iconst (v := 0) hx hb dX7_seed_1 (by decide) ?_
  refine va_put (ci := 7) (v := .int 0) (ty := .int) (C := RX7) (T := TX7) (N := 22) hx hb ht inX7 tyX7 tyX7_ok nmX7 hown hK.1 hP hD hS 0 rfl rfl 0 (by decide) (ht _ q_666) (fun _ h9 => h9) rfl (by decide +kernel) rfl rfl (Nat.le_of_ble_eq_true rfl) dX7_seed_2 (fun H1 locs1 hP1 hD1 hS1 => ?_)
  have hP2 : va_P G.1 vwCl ([(h0, .inr (7, cM (upd Z 0 0) q1 q2 q3 q4 q5 q6 q7 q8 q9 q10 q11 sd))]) H1 := hP1
  have hD3 : va_D A ([(h0, .inr (7, cM (upd Z 0 0) q1 q2 q3 q4 q5 q6 q7 q8 q9 q10 q11 sd))]) := hD1
  refine lv_aload_n hx hb dX7_seed_5 rfl (lv_at hl 0 rfl) ?_
  refine va_get (ci := 7) (v := .long sd) (C := RX7) (T := TX7) (N := 22) hx hb ht inX7 hown hK.1 hP2 0 rfl rfl 17 (by decide) (ht _ q_683) (fun _ h9 => h9) rfl dX7_seed_6 ?_
  refine lv_lstore_n (lv' := [(3, .long sd), (0, .ref h0), (1, .long p0)]) hx hb dX7_seed_9 rfl hl (by decide) rfl (fun ls4 hl4 => ?_)
  refine lv_aload_n hx hb dX7_seed_10 rfl (lv_at hl4 1 rfl) ?_
  refine lv_lload_n hx hb dX7_seed_11 rfl (lv_at hl4 2 rfl) ?_
  refine va_put (ci := 7) (v := .long p0) (ty := .long) (C := RX7) (T := TX7) (N := 22) hx hb ht inX7 tyX7 tyX7_ok nmX7 hown hK.1 hP2 hD3 hS1 0 rfl rfl 17 (by decide) (ht _ q_683) (fun _ h9 => h9) rfl (by decide +kernel) rfl rfl (Nat.le_of_ble_eq_true rfl) dX7_seed_12 (fun H5 locs5 hP5 hD5 hS5 => ?_)
  have hP6 : va_P G.1 vwCl ([(h0, .inr (7, cM (upd Z 0 0) q1 q2 q3 q4 q5 q6 q7 q8 q9 q10 q11 p0))]) H5 := hP5
  have hD7 : va_D A ([(h0, .inr (7, cM (upd Z 0 0) q1 q2 q3 q4 q5 q6 q7 q8 q9 q10 q11 p0))]) := hD5
  refine lv_lload_n hx hb dX7_seed_15 rfl (lv_at hl4 0 rfl) ?_
  exact k_lret kx hK hP6 hD7 hS5 (u := ()) rfl rfl dX7_seed_16

set_option maxHeartbeats 4000000 in
set_option maxRecDepth 100000 in
theorem c_X7_wipe (l : Launch) (G : kG) (Z : Nat → Int32) (sd : Int64) (h0 : Nat) (q1 : Nat) (q2 : Nat) (q3 : Nat) (q4 : Nat) (q5 : Nat) (q6 : Nat) (q7 : Nat) (q8 : Nat) (q9 : Nat) (q10 : Nat) (q11 : Nat) : cG l G yX7_wipe cX7_wipe 2 (some .int) 0 [.ref h0] ([(h0, .inr (7, cM Z q1 q2 q3 q4 q5 q6 q7 q8 q9 q10 q11 sd))]) (qI G (fun (r : Int32) (_ : Unit) => r = Z 2) (fun _ => [(h0, .inr (7, cM (upd (upd Z 0 0) 2 0) q1 q2 q3 q4 q5 q6 q7 q8 q9 q10 q11 sd))])) := by
  refine kintro (by decide) (Nat.le_of_ble_eq_true rfl) ?_
  intro p e s m args below meth c A ls kx hK hP hD hS hA hl
  have kx : kX p s m args meth c cX7_wipe 2 (some .int) RX7 := kx
  have hx := kx.1
  have hb := kx.2.1
  have hown := kx.2.2.2.2.1
  have ht := kx.2.2.2.2.2.2
  have hl : lv_has ls 2 [(0, .ref h0)] := hl
  refine lv_aload_n hx hb dX7_wipe_0 rfl (lv_at hl 0 rfl) ?_
  refine lv_iconst (v := 0) hx hb dX7_wipe_1 (by decide) ?_
  refine va_put (ci := 7) (v := .int 0) (ty := .int) (C := RX7) (T := TX7) (N := 22) hx hb ht inX7 tyX7 tyX7_ok nmX7 hown hK.1 hP hD hS 0 rfl rfl 0 (by decide) (ht _ q_666) (fun _ h9 => h9) rfl (by decide +kernel) rfl rfl (Nat.le_of_ble_eq_true rfl) dX7_wipe_2 (fun H1 locs1 hP1 hD1 hS1 => ?_)
  have hP2 : va_P G.1 vwCl ([(h0, .inr (7, cM (upd Z 0 0) q1 q2 q3 q4 q5 q6 q7 q8 q9 q10 q11 sd))]) H1 := hP1
  have hD3 : va_D A ([(h0, .inr (7, cM (upd Z 0 0) q1 q2 q3 q4 q5 q6 q7 q8 q9 q10 q11 sd))]) := hD1
  refine lv_aload_n hx hb dX7_wipe_5 rfl (lv_at hl 0 rfl) ?_
  refine va_get (ci := 7) (v := .int (Z 2)) (C := RX7) (T := TX7) (N := 22) hx hb ht inX7 hown hK.1 hP2 0 rfl rfl 2 (by decide) (ht _ q_668) (fun _ h9 => h9) rfl dX7_wipe_6 ?_
  refine lv_istore_n (lv' := [(1, .int (Z 2)), (0, .ref h0)]) hx hb dX7_wipe_9 rfl hl (by decide) rfl (fun ls4 hl4 => ?_)
  refine lv_aload_n hx hb dX7_wipe_10 rfl (lv_at hl4 1 rfl) ?_
  refine lv_iconst (v := 0) hx hb dX7_wipe_11 (by decide) ?_
  refine va_put (ci := 7) (v := .int 0) (ty := .int) (C := RX7) (T := TX7) (N := 22) hx hb ht inX7 tyX7 tyX7_ok nmX7 hown hK.1 hP2 hD3 hS1 0 rfl rfl 2 (by decide) (ht _ q_668) (fun _ h9 => h9) rfl (by decide +kernel) rfl rfl (Nat.le_of_ble_eq_true rfl) dX7_wipe_12 (fun H5 locs5 hP5 hD5 hS5 => ?_)
  have hP6 : va_P G.1 vwCl ([(h0, .inr (7, cM (upd (upd Z 0 0) 2 0) q1 q2 q3 q4 q5 q6 q7 q8 q9 q10 q11 sd))]) H5 := hP5
  have hD7 : va_D A ([(h0, .inr (7, cM (upd (upd Z 0 0) 2 0) q1 q2 q3 q4 q5 q6 q7 q8 q9 q10 q11 sd))]) := hD5
  refine lv_iload_n hx hb dX7_wipe_15 rfl (lv_at hl4 0 rfl) ?_
  exact k_iret kx hK hP6 hD7 hS5 (u := ()) rfl rfl dX7_wipe_16

set_option maxHeartbeats 4000000 in
set_option maxRecDepth 100000 in
theorem c_X7_unsee (l : Launch) (G : kG) (Z : Nat → Int32) (sd : Int64) (h0 : Nat) (q1 : Nat) (q2 : Nat) (q3 : Nat) (q4 : Nat) (q5 : Nat) (q6 : Nat) (q7 : Nat) (q8 : Nat) (q9 : Nat) (q10 : Nat) (q11 : Nat) : cG l G yX7_unsee cX7_unsee 2 (some .int) 0 [.ref h0] ([(h0, .inr (7, cM Z q1 q2 q3 q4 q5 q6 q7 q8 q9 q10 q11 sd))]) (qI G (fun (r : Int32) (_ : Unit) => r = Z 13) (fun _ => [(h0, .inr (7, cM (upd (upd Z 0 0) 13 0) q1 q2 q3 q4 q5 q6 q7 q8 q9 q10 q11 sd))])) := by
  refine kintro (by decide) (Nat.le_of_ble_eq_true rfl) ?_
  intro p e s m args below meth c A ls kx hK hP hD hS hA hl
  have kx : kX p s m args meth c cX7_unsee 2 (some .int) RX7 := kx
  have hx := kx.1
  have hb := kx.2.1
  have hown := kx.2.2.2.2.1
  have ht := kx.2.2.2.2.2.2
  have hl : lv_has ls 2 [(0, .ref h0)] := hl
  refine lv_aload_n hx hb dX7_unsee_0 rfl (lv_at hl 0 rfl) ?_
  refine lv_iconst (v := 0) hx hb dX7_unsee_1 (by decide) ?_
  refine va_put (ci := 7) (v := .int 0) (ty := .int) (C := RX7) (T := TX7) (N := 22) hx hb ht inX7 tyX7 tyX7_ok nmX7 hown hK.1 hP hD hS 0 rfl rfl 0 (by decide) (ht _ q_666) (fun _ h9 => h9) rfl (by decide +kernel) rfl rfl (Nat.le_of_ble_eq_true rfl) dX7_unsee_2 (fun H1 locs1 hP1 hD1 hS1 => ?_)
  have hP2 : va_P G.1 vwCl ([(h0, .inr (7, cM (upd Z 0 0) q1 q2 q3 q4 q5 q6 q7 q8 q9 q10 q11 sd))]) H1 := hP1
  have hD3 : va_D A ([(h0, .inr (7, cM (upd Z 0 0) q1 q2 q3 q4 q5 q6 q7 q8 q9 q10 q11 sd))]) := hD1
  refine lv_aload_n hx hb dX7_unsee_5 rfl (lv_at hl 0 rfl) ?_
  refine va_get (ci := 7) (v := .int (Z 13)) (C := RX7) (T := TX7) (N := 22) hx hb ht inX7 hown hK.1 hP2 0 rfl rfl 13 (by decide) (ht _ q_679) (fun _ h9 => h9) rfl dX7_unsee_6 ?_
  refine lv_istore_n (lv' := [(1, .int (Z 13)), (0, .ref h0)]) hx hb dX7_unsee_9 rfl hl (by decide) rfl (fun ls4 hl4 => ?_)
  refine lv_aload_n hx hb dX7_unsee_10 rfl (lv_at hl4 1 rfl) ?_
  refine lv_iconst (v := 0) hx hb dX7_unsee_11 (by decide) ?_
  refine va_put (ci := 7) (v := .int 0) (ty := .int) (C := RX7) (T := TX7) (N := 22) hx hb ht inX7 tyX7 tyX7_ok nmX7 hown hK.1 hP2 hD3 hS1 0 rfl rfl 13 (by decide) (ht _ q_679) (fun _ h9 => h9) rfl (by decide +kernel) rfl rfl (Nat.le_of_ble_eq_true rfl) dX7_unsee_12 (fun H5 locs5 hP5 hD5 hS5 => ?_)
  have hP6 : va_P G.1 vwCl ([(h0, .inr (7, cM (upd (upd Z 0 0) 13 0) q1 q2 q3 q4 q5 q6 q7 q8 q9 q10 q11 sd))]) H5 := hP5
  have hD7 : va_D A ([(h0, .inr (7, cM (upd (upd Z 0 0) 13 0) q1 q2 q3 q4 q5 q6 q7 q8 q9 q10 q11 sd))]) := hD5
  refine lv_iload_n hx hb dX7_unsee_15 rfl (lv_at hl4 0 rfl) ?_
  exact k_iret kx hK hP6 hD7 hS5 (u := ()) rfl rfl dX7_unsee_16

def r_X7_write (L : Nat) (p0 : Int32) : Int32 := if (r_X7_in p0.toInt64 0 255) = 0 then (-2) else if nI L = 70 then (-4) else (nI L) + 1
def s_X7_write_Z (Z : Nat → Int32) (L : Nat) (p0 : Int32) : Nat → Int32 := if (r_X7_in p0.toInt64 0 255) = 0 then (upd (upd Z 2 (nI L)) 0 0) else if nI L = 70 then (upd (upd Z 2 (nI L)) 0 0) else upd (upd (upd Z 2 (nI L)) 0 0) 2 ((nI L) + 1)
def s_X7_write_tx (L : Nat) (tx : Nat → Int32) (p0 : Int32) : Nat → Int32 := if (r_X7_in p0.toInt64 0 255) = 0 then tx else if nI L = 70 then tx else upd tx L p0
set_option maxHeartbeats 4000000 in
set_option maxRecDepth 100000 in
theorem c_X7_write (l : Launch) (G : kG) (Z : Nat → Int32) (L : Nat) (sd : Int64) (h0 : Nat) (q1 : Nat) (q2 : Nat) (q3 : Nat) (q4 : Nat) (q5 : Nat) (q6 : Nat) (q7 : Nat) (q8 : Nat) (q9 : Nat) (q10 : Nat) (q11 : Nat) (tx : Nat → Int32) (p0 : Int32) (hL : L ≤ 70) : cG l G yX7_write cX7_write 2 (some .int) 1 [.ref h0, .int p0] ([(h0, .inr (7, cM (upd Z 2 (nI L)) q1 q2 q3 q4 q5 q6 q7 q8 q9 q10 q11 sd)), (q1, .inl (G.2.1, 70, .inl tx))]) (qI G (fun (r : Int32) (u : ((Nat → Int32) × (Nat → Int32))) => r = r_X7_write L p0 ∧ u.1 = s_X7_write_Z Z L p0 ∧ u.2 = s_X7_write_tx L tx p0) (fun u => [(h0, .inr (7, cM u.1 q1 q2 q3 q4 q5 q6 q7 q8 q9 q10 q11 sd)), (q1, .inl (G.2.1, 70, .inl u.2))])) := by
  refine kintro (by decide) (Nat.le_of_ble_eq_true rfl) ?_
  intro p e s m args below meth c A ls kx hK hP hD hS hA hl
  have kx : kX p s m args meth c cX7_write 2 (some .int) RX7 := kx
  have hx := kx.1
  have hb := kx.2.1
  have hown := kx.2.2.2.2.1
  have ht := kx.2.2.2.2.2.2
  have hl : lv_has ls 2 [(0, .ref h0), (1, .int p0)] := hl
  refine lv_aload_n hx hb dX7_write_0 rfl (lv_at hl 0 rfl) ?_
  refine lv_iconst (v := 0) hx hb dX7_write_1 (by decide) ?_
  refine va_put (ci := 7) (v := .int 0) (ty := .int) (C := RX7) (T := TX7) (N := 22) hx hb ht inX7 tyX7 tyX7_ok nmX7 hown hK.1 hP hD hS 0 rfl rfl 0 (by decide) (ht _ q_666) (fun _ h9 => h9) rfl (by decide +kernel) rfl rfl (Nat.le_of_ble_eq_true rfl) dX7_write_2 (fun H1 locs1 hP1 hD1 hS1 => ?_)
  have hP2 : va_P G.1 vwCl ([(h0, .inr (7, cM (upd (upd Z 2 (nI L)) 0 0) q1 q2 q3 q4 q5 q6 q7 q8 q9 q10 q11 sd)), (q1, .inl (G.2.1, 70, .inl tx))]) H1 := hP1
  have hD3 : va_D A ([(h0, .inr (7, cM (upd (upd Z 2 (nI L)) 0 0) q1 q2 q3 q4 q5 q6 q7 q8 q9 q10 q11 sd)), (q1, .inl (G.2.1, 70, .inl tx))]) := hD1
  refine lv_iload_n hx hb dX7_write_5 rfl (lv_at hl 1 rfl) ?_
  refine lv_i2l (v := p0.toInt64) hx hb dX7_write_6 rfl ?_
  refine lv_lconst (v := 0) hx hb dX7_write_7 (by decide) ?_
  refine lv_ldc2 (v := 255) hx hb hown (ht _ q_737) dX7_write_8 ?_
  refine k_calli (kRunS (As := [.long p0.toInt64, .long 0, .long 255]) (rest := []) kx (c_X7_in l G p0.toInt64 0 255) q_740 q_738 q_36 q_739 nX7_in ⟨Nat.le_of_ble_eq_true rfl, Nat.le_of_ble_eq_true rfl⟩ hK hP2 hD3 (kCtx_nil _) rfl hl.1 (Nat.le_of_ble_eq_true rfl) dX7_write_11 ⟨Nat.zero_le _, Nat.zero_le _⟩) hP2 hD3 hS1 hA (kCtx_nil _) (fun _ => rfl) (fun r1 _ H4 locs4 hw hP4 hD4 hS4 => ?_)
  have hr1 : r_X7_in p0.toInt64 0 255 = r1 := (show r1 = r_X7_in p0.toInt64 0 255 from hw).symm
  have hP5 : va_P G.1 vwCl ([(h0, .inr (7, cM (upd (upd Z 2 (nI L)) 0 0) q1 q2 q3 q4 q5 q6 q7 q8 q9 q10 q11 sd)), (q1, .inl (G.2.1, 70, .inl tx))]) H4 := hP4
  have hD6 : va_D A ([(h0, .inr (7, cM (upd (upd Z 2 (nI L)) 0 0) q1 q2 q3 q4 q5 q6 q7 q8 q9 q10 q11 sd)), (q1, .inl (G.2.1, 70, .inl tx))]) := hD4
  refine lv_if_ne (x := r1) (tgt := 20) hx hb dX7_write_14 (by decide) (fun (c2 : ¬ (r1 = 0)) => ?_) (fun (c2 : r1 = 0) => ?_)
  · skip
    obtain ⟨nnc2, nmc2⟩ := kin_of (x := p0) (a := 0) (N := 255) (by rw [hr1]; exact c2) (by decide) (by decide)
    refine lv_aload_n hx hb dX7_write_20 rfl (lv_at hl 0 rfl) ?_
    refine va_get (ci := 7) (v := .int (nI L)) (C := RX7) (T := TX7) (N := 22) hx hb ht inX7 hown hK.1 hP5 0 rfl rfl 2 (by decide) (ht _ q_668) (fun _ h9 => h9) rfl dX7_write_21 ?_
    refine lv_bipush (v := 70) hx hb dX7_write_24 (by decide) ?_
    refine lv_icmp_ne (x := nI L) (y := 70) (tgt := 32) hx hb dX7_write_26 (by decide) (fun (c3 : ¬ (nI L = 70)) => ?_) (fun (c3 : nI L = 70) => ?_)
    · skip
      have nec3 : L ≠ 70 := fun q => c3 (by rw [q]; rfl)
      refine lv_aload_n hx hb dX7_write_32 rfl (lv_at hl 0 rfl) ?_
      refine va_get (ci := 7) (v := .ref q1) (C := RX7) (T := TX7) (N := 22) hx hb ht inX7 hown hK.1 hP5 0 rfl rfl 1 (by decide) (ht _ q_667) (fun _ h9 => h9) rfl dX7_write_33 ?_
      refine lv_aload_n hx hb dX7_write_36 rfl (lv_at hl 0 rfl) ?_
      refine va_get (ci := 7) (v := .int (nI L)) (C := RX7) (T := TX7) (N := 22) hx hb ht inX7 hown hK.1 hP5 0 rfl rfl 2 (by decide) (ht _ q_668) (fun _ h9 => h9) rfl dX7_write_37 ?_
      refine lv_iload_n hx hb dX7_write_40 rfl (lv_at hl 1 rfl) ?_
      refine k_iast kx hK hP5 hD6 hS4 1 rfl L rfl (by omega) (by decide) dX7_write_41 (fun H7 locs7 hP7 hD7 hS7 => ?_)
      have hP8 : va_P G.1 vwCl ([(h0, .inr (7, cM (upd (upd Z 2 (nI L)) 0 0) q1 q2 q3 q4 q5 q6 q7 q8 q9 q10 q11 sd)), (q1, .inl (G.2.1, 70, .inl (upd tx L p0)))]) H7 := hP7
      have hD9 : va_D A ([(h0, .inr (7, cM (upd (upd Z 2 (nI L)) 0 0) q1 q2 q3 q4 q5 q6 q7 q8 q9 q10 q11 sd)), (q1, .inl (G.2.1, 70, .inl (upd tx L p0)))]) := hD7
      refine lv_aload_n hx hb dX7_write_42 rfl (lv_at hl 0 rfl) ?_
      refine lv_dup hx hb dX7_write_43 rfl ?_
      refine va_get (ci := 7) (v := .int (nI L)) (C := RX7) (T := TX7) (N := 22) hx hb ht inX7 hown hK.1 hP8 0 rfl rfl 2 (by decide) (ht _ q_668) (fun _ h9 => h9) rfl dX7_write_44 ?_
      refine lv_iconst (v := 1) hx hb dX7_write_47 (by decide) ?_
      refine lv_iadd hx hb dX7_write_48 ?_
      refine va_put (ci := 7) (v := .int ((nI L) + 1)) (ty := .int) (C := RX7) (T := TX7) (N := 22) hx hb ht inX7 tyX7 tyX7_ok nmX7 hown hK.1 hP8 hD9 hS7 0 rfl rfl 2 (by decide) (ht _ q_668) (fun _ h9 => h9) rfl (by decide +kernel) rfl rfl (Nat.le_of_ble_eq_true rfl) dX7_write_49 (fun H10 locs10 hP10 hD10 hS10 => ?_)
      have hP11 : va_P G.1 vwCl ([(h0, .inr (7, cM (upd (upd (upd Z 2 (nI L)) 0 0) 2 ((nI L) + 1)) q1 q2 q3 q4 q5 q6 q7 q8 q9 q10 q11 sd)), (q1, .inl (G.2.1, 70, .inl (upd tx L p0)))]) H10 := hP10
      have hD12 : va_D A ([(h0, .inr (7, cM (upd (upd (upd Z 2 (nI L)) 0 0) 2 ((nI L) + 1)) q1 q2 q3 q4 q5 q6 q7 q8 q9 q10 q11 sd)), (q1, .inl (G.2.1, 70, .inl (upd tx L p0)))]) := hD10
      refine lv_aload_n hx hb dX7_write_52 rfl (lv_at hl 0 rfl) ?_
      refine va_get (ci := 7) (v := .int ((nI L) + 1)) (C := RX7) (T := TX7) (N := 22) hx hb ht inX7 hown hK.1 hP11 0 rfl rfl 2 (by decide) (ht _ q_668) (fun _ h9 => h9) rfl dX7_write_53 ?_
      have er : r_X7_write L p0 = (nI L) + 1 := by rw [r_X7_write]; (try rw [hr1]); rw [if_neg c2, if_neg c3]
      have e0 : s_X7_write_Z Z L p0 = upd (upd (upd Z 2 (nI L)) 0 0) 2 ((nI L) + 1) := by rw [s_X7_write_Z]; (try rw [hr1]); rw [if_neg c2, if_neg c3]
      have e1 : s_X7_write_tx L tx p0 = upd tx L p0 := by rw [s_X7_write_tx]; (try rw [hr1]); rw [if_neg c2, if_neg c3]
      exact k_iret kx hK hP11 hD12 hS10 (u := (upd (upd (upd Z 2 (nI L)) 0 0) 2 ((nI L) + 1), upd tx L p0)) rfl ⟨er.symm, e0.symm, e1.symm⟩ dX7_write_56
    · skip
      refine lv_bipush (v := (-4)) hx hb dX7_write_29 (by decide) ?_
      have er : r_X7_write L p0 = (-4) := by rw [r_X7_write]; (try rw [hr1]); rw [if_neg c2, if_pos c3]
      have e0 : s_X7_write_Z Z L p0 = upd (upd Z 2 (nI L)) 0 0 := by rw [s_X7_write_Z]; (try rw [hr1]); rw [if_neg c2, if_pos c3]
      have e1 : s_X7_write_tx L tx p0 = tx := by rw [s_X7_write_tx]; (try rw [hr1]); rw [if_neg c2, if_pos c3]
      exact k_iret kx hK hP5 hD6 hS4 (u := (upd (upd Z 2 (nI L)) 0 0, tx)) rfl ⟨er.symm, e0.symm, e1.symm⟩ dX7_write_31
  · skip
    refine lv_bipush (v := (-2)) hx hb dX7_write_17 (by decide) ?_
    have er : r_X7_write L p0 = (-2) := by rw [r_X7_write]; (try rw [hr1]); rw [if_pos c2]
    have e0 : s_X7_write_Z Z L p0 = upd (upd Z 2 (nI L)) 0 0 := by rw [s_X7_write_Z]; (try rw [hr1]); rw [if_pos c2]
    have e1 : s_X7_write_tx L tx p0 = tx := by rw [s_X7_write_tx]; (try rw [hr1]); rw [if_pos c2]
    exact k_iret kx hK hP5 hD6 hS4 (u := (upd (upd Z 2 (nI L)) 0 0, tx)) rfl ⟨er.symm, e0.symm, e1.symm⟩ dX7_write_19

def r_X7_see_0 (z : Nat) (p0 : Int32) (p2 : Int32) : Int32 := if (r_X7_in p0.toInt64 0 99) = 0 then (-2) else if (r_X7_in p2.toInt64 0 2) = 0 then (-2) else if nI z = 6 then (-4) else (nI z) + 1
def s_X7_see_0_Z (Z : Nat → Int32) (z : Nat) (p0 : Int32) (p2 : Int32) : Nat → Int32 := if (r_X7_in p0.toInt64 0 99) = 0 then (upd (upd Z 13 (nI z)) 0 0) else if (r_X7_in p2.toInt64 0 2) = 0 then (upd (upd Z 13 (nI z)) 0 0) else if nI z = 6 then (upd (upd Z 13 (nI z)) 0 0) else upd (upd (upd Z 13 (nI z)) 0 0) 13 ((nI z) + 1)
def s_X7_see_0_sa (z : Nat) (sa : Nat → Int32) (p0 : Int32) (p2 : Int32) : Nat → Int32 := if (r_X7_in p0.toInt64 0 99) = 0 then sa else if (r_X7_in p2.toInt64 0 2) = 0 then sa else if nI z = 6 then sa else upd sa z p0
def s_X7_see_0_se (z : Nat) (se : Nat → Int32) (p0 : Int32) (p2 : Int32) : Nat → Int32 := if (r_X7_in p0.toInt64 0 99) = 0 then se else if (r_X7_in p2.toInt64 0 2) = 0 then se else if nI z = 6 then se else upd se z 0
def s_X7_see_0_sm (z : Nat) (sm : Nat → Int32) (p0 : Int32) (p2 : Int32) : Nat → Int32 := if (r_X7_in p0.toInt64 0 99) = 0 then sm else if (r_X7_in p2.toInt64 0 2) = 0 then sm else if nI z = 6 then sm else upd sm z p2
set_option maxHeartbeats 4000000 in
set_option maxRecDepth 100000 in
theorem c_X7_see_0 (l : Launch) (G : kG) (Z : Nat → Int32) (z : Nat) (sd : Int64) (h0 : Nat) (q1 : Nat) (q2 : Nat) (q3 : Nat) (q4 : Nat) (q5 : Nat) (q6 : Nat) (q7 : Nat) (q8 : Nat) (q9 : Nat) (q10 : Nat) (q11 : Nat) (sa : Nat → Int32) (se : Nat → Int32) (sm : Nat → Int32) (p0 : Int32) (p2 : Int32) (hz : z ≤ 6) : cG l G yX7_see cX7_see 4 (some .int) 2 [.ref h0, .int p0, .int 0, .int p2] ([(h0, .inr (7, cM (upd Z 13 (nI z)) q1 q2 q3 q4 q5 q6 q7 q8 q9 q10 q11 sd)), (q9, .inl (G.2.1, 6, .inl sa)), (q10, .inl (G.2.1, 6, .inl se)), (q11, .inl (G.2.1, 6, .inl sm))]) (qI G (fun (r : Int32) (u : ((Nat → Int32) × (Nat → Int32) × (Nat → Int32) × (Nat → Int32))) => r = r_X7_see_0 z p0 p2 ∧ u.1 = s_X7_see_0_Z Z z p0 p2 ∧ u.2.1 = s_X7_see_0_sa z sa p0 p2 ∧ u.2.2.1 = s_X7_see_0_se z se p0 p2 ∧ u.2.2.2 = s_X7_see_0_sm z sm p0 p2) (fun u => [(h0, .inr (7, cM u.1 q1 q2 q3 q4 q5 q6 q7 q8 q9 q10 q11 sd)), (q9, .inl (G.2.1, 6, .inl u.2.1)), (q10, .inl (G.2.1, 6, .inl u.2.2.1)), (q11, .inl (G.2.1, 6, .inl u.2.2.2))])) := by
  refine kintro (by decide) (Nat.le_of_ble_eq_true rfl) ?_
  intro p e s m args below meth c A ls kx hK hP hD hS hA hl
  have kx : kX p s m args meth c cX7_see 4 (some .int) RX7 := kx
  have hx := kx.1
  have hb := kx.2.1
  have hown := kx.2.2.2.2.1
  have ht := kx.2.2.2.2.2.2
  have hl : lv_has ls 4 [(0, .ref h0), (1, .int p0), (2, .int 0), (3, .int p2)] := hl
  refine lv_aload_n hx hb dX7_see_0 rfl (lv_at hl 0 rfl) ?_
  refine lv_iconst (v := 0) hx hb dX7_see_1 (by decide) ?_
  refine va_put (ci := 7) (v := .int 0) (ty := .int) (C := RX7) (T := TX7) (N := 22) hx hb ht inX7 tyX7 tyX7_ok nmX7 hown hK.1 hP hD hS 0 rfl rfl 0 (by decide) (ht _ q_666) (fun _ h9 => h9) rfl (by decide +kernel) rfl rfl (Nat.le_of_ble_eq_true rfl) dX7_see_2 (fun H1 locs1 hP1 hD1 hS1 => ?_)
  have hP2 : va_P G.1 vwCl ([(h0, .inr (7, cM (upd (upd Z 13 (nI z)) 0 0) q1 q2 q3 q4 q5 q6 q7 q8 q9 q10 q11 sd)), (q9, .inl (G.2.1, 6, .inl sa)), (q10, .inl (G.2.1, 6, .inl se)), (q11, .inl (G.2.1, 6, .inl sm))]) H1 := hP1
  have hD3 : va_D A ([(h0, .inr (7, cM (upd (upd Z 13 (nI z)) 0 0) q1 q2 q3 q4 q5 q6 q7 q8 q9 q10 q11 sd)), (q9, .inl (G.2.1, 6, .inl sa)), (q10, .inl (G.2.1, 6, .inl se)), (q11, .inl (G.2.1, 6, .inl sm))]) := hD1
  refine lv_iload_n hx hb dX7_see_5 rfl (lv_at hl 2 rfl) ?_
  refine k_calli (kRunS (As := [.int 0]) (rest := []) kx (c_X7_noEnd_0 l G ) q_824 q_822 q_36 q_823 nX7_noEnd ⟨Nat.le_of_ble_eq_true rfl, Nat.le_of_ble_eq_true rfl⟩ hK hP2 hD3 (kCtx_nil _) rfl hl.1 (Nat.le_of_ble_eq_true rfl) dX7_see_6 ⟨Nat.zero_le _, Nat.zero_le _⟩) hP2 hD3 hS1 hA (kCtx_nil _) (fun _ => rfl) (fun r1 _ H4 locs4 hw hP4 hD4 hS4 => ?_)
  have hr1 : 0 = r1 := (show r1 = 0 from hw).symm
  subst hr1
  have hP5 : va_P G.1 vwCl ([(h0, .inr (7, cM (upd (upd Z 13 (nI z)) 0 0) q1 q2 q3 q4 q5 q6 q7 q8 q9 q10 q11 sd)), (q9, .inl (G.2.1, 6, .inl sa)), (q10, .inl (G.2.1, 6, .inl se)), (q11, .inl (G.2.1, 6, .inl sm))]) H4 := hP4
  have hD6 : va_D A ([(h0, .inr (7, cM (upd (upd Z 13 (nI z)) 0 0) q1 q2 q3 q4 q5 q6 q7 q8 q9 q10 q11 sd)), (q9, .inl (G.2.1, 6, .inl sa)), (q10, .inl (G.2.1, 6, .inl se)), (q11, .inl (G.2.1, 6, .inl sm))]) := hD4
  refine lv_if_eq (x := 0) (tgt := 14) hx hb dX7_see_9 (by decide) (fun (c2 : 0 = 0) => ?_) (fun (c2 : ¬ (0 = 0)) => absurd (by decide) c2)
  refine lv_iload_n hx hb dX7_see_14 rfl (lv_at hl 1 rfl) ?_
  refine lv_i2l (v := p0.toInt64) hx hb dX7_see_15 rfl ?_
  refine lv_lconst (v := 0) hx hb dX7_see_16 (by decide) ?_
  refine lv_ldc2 (v := 99) hx hb hown (ht _ q_897) dX7_see_17 ?_
  refine k_calli (kRunS (As := [.long p0.toInt64, .long 0, .long 99]) (rest := []) kx (c_X7_in l G p0.toInt64 0 99) q_740 q_738 q_36 q_739 nX7_in ⟨Nat.le_of_ble_eq_true rfl, Nat.le_of_ble_eq_true rfl⟩ hK hP5 hD6 (kCtx_nil _) rfl hl.1 (Nat.le_of_ble_eq_true rfl) dX7_see_20 ⟨Nat.zero_le _, Nat.zero_le _⟩) hP5 hD6 hS4 hA (kCtx_nil _) (fun _ => rfl) (fun r3 _ H7 locs7 hw hP7 hD7 hS7 => ?_)
  have hr3 : r_X7_in p0.toInt64 0 99 = r3 := (show r3 = r_X7_in p0.toInt64 0 99 from hw).symm
  have hP8 : va_P G.1 vwCl ([(h0, .inr (7, cM (upd (upd Z 13 (nI z)) 0 0) q1 q2 q3 q4 q5 q6 q7 q8 q9 q10 q11 sd)), (q9, .inl (G.2.1, 6, .inl sa)), (q10, .inl (G.2.1, 6, .inl se)), (q11, .inl (G.2.1, 6, .inl sm))]) H7 := hP7
  have hD9 : va_D A ([(h0, .inr (7, cM (upd (upd Z 13 (nI z)) 0 0) q1 q2 q3 q4 q5 q6 q7 q8 q9 q10 q11 sd)), (q9, .inl (G.2.1, 6, .inl sa)), (q10, .inl (G.2.1, 6, .inl se)), (q11, .inl (G.2.1, 6, .inl sm))]) := hD7
  refine lv_if_eq (x := r3) (tgt := 38) hx hb dX7_see_23 (by decide) (fun (c4 : r3 = 0) => ?_) (fun (c4 : ¬ (r3 = 0)) => ?_)
  · skip
    refine lv_bipush (v := (-2)) hx hb dX7_see_38 (by decide) ?_
    have er : r_X7_see_0 z p0 p2 = (-2) := by rw [r_X7_see_0]; (try rw [hr3]); rw [if_pos c4]
    have e0 : s_X7_see_0_Z Z z p0 p2 = upd (upd Z 13 (nI z)) 0 0 := by rw [s_X7_see_0_Z]; (try rw [hr3]); rw [if_pos c4]
    have e1 : s_X7_see_0_sa z sa p0 p2 = sa := by rw [s_X7_see_0_sa]; (try rw [hr3]); rw [if_pos c4]
    have e2 : s_X7_see_0_se z se p0 p2 = se := by rw [s_X7_see_0_se]; (try rw [hr3]); rw [if_pos c4]
    have e3 : s_X7_see_0_sm z sm p0 p2 = sm := by rw [s_X7_see_0_sm]; (try rw [hr3]); rw [if_pos c4]
    exact k_iret kx hK hP8 hD9 hS7 (u := (upd (upd Z 13 (nI z)) 0 0, sa, se, sm)) rfl ⟨er.symm, e0.symm, e1.symm, e2.symm, e3.symm⟩ dX7_see_40
  · skip
    obtain ⟨nnc4, nmc4⟩ := kin_of (x := p0) (a := 0) (N := 99) (by rw [hr3]; exact c4) (by decide) (by decide)
    refine lv_iload_n hx hb dX7_see_26 rfl (lv_at hl 3 rfl) ?_
    refine lv_i2l (v := p2.toInt64) hx hb dX7_see_27 rfl ?_
    refine lv_lconst (v := 0) hx hb dX7_see_28 (by decide) ?_
    refine lv_ldc2 (v := 2) hx hb hown (ht _ q_860) dX7_see_29 ?_
    refine k_calli (kRunS (As := [.long p2.toInt64, .long 0, .long 2]) (rest := []) kx (c_X7_in l G p2.toInt64 0 2) q_740 q_738 q_36 q_739 nX7_in ⟨Nat.le_of_ble_eq_true rfl, Nat.le_of_ble_eq_true rfl⟩ hK hP8 hD9 (kCtx_nil _) rfl hl.1 (Nat.le_of_ble_eq_true rfl) dX7_see_32 ⟨Nat.zero_le _, Nat.zero_le _⟩) hP8 hD9 hS7 hA (kCtx_nil _) (fun _ => rfl) (fun r5 _ H10 locs10 hw hP10 hD10 hS10 => ?_)
    have hr5 : r_X7_in p2.toInt64 0 2 = r5 := (show r5 = r_X7_in p2.toInt64 0 2 from hw).symm
    have hP11 : va_P G.1 vwCl ([(h0, .inr (7, cM (upd (upd Z 13 (nI z)) 0 0) q1 q2 q3 q4 q5 q6 q7 q8 q9 q10 q11 sd)), (q9, .inl (G.2.1, 6, .inl sa)), (q10, .inl (G.2.1, 6, .inl se)), (q11, .inl (G.2.1, 6, .inl sm))]) H10 := hP10
    have hD12 : va_D A ([(h0, .inr (7, cM (upd (upd Z 13 (nI z)) 0 0) q1 q2 q3 q4 q5 q6 q7 q8 q9 q10 q11 sd)), (q9, .inl (G.2.1, 6, .inl sa)), (q10, .inl (G.2.1, 6, .inl se)), (q11, .inl (G.2.1, 6, .inl sm))]) := hD10
    refine lv_if_ne (x := r5) (tgt := 41) hx hb dX7_see_35 (by decide) (fun (c6 : ¬ (r5 = 0)) => ?_) (fun (c6 : r5 = 0) => ?_)
    · skip
      obtain ⟨nnc6, nmc6⟩ := kin_of (x := p2) (a := 0) (N := 2) (by rw [hr5]; exact c6) (by decide) (by decide)
      refine lv_aload_n hx hb dX7_see_41 rfl (lv_at hl 0 rfl) ?_
      refine va_get (ci := 7) (v := .int (nI z)) (C := RX7) (T := TX7) (N := 22) hx hb ht inX7 hown hK.1 hP11 0 rfl rfl 13 (by decide) (ht _ q_679) (fun _ h9 => h9) rfl dX7_see_42 ?_
      refine lv_bipush (v := 6) hx hb dX7_see_45 (by decide) ?_
      refine lv_icmp_ne (x := nI z) (y := 6) (tgt := 53) hx hb dX7_see_47 (by decide) (fun (c7 : ¬ (nI z = 6)) => ?_) (fun (c7 : nI z = 6) => ?_)
      · skip
        have nec7 : z ≠ 6 := fun q => c7 (by rw [q]; rfl)
        refine lv_aload_n hx hb dX7_see_53 rfl (lv_at hl 0 rfl) ?_
        refine va_get (ci := 7) (v := .ref q9) (C := RX7) (T := TX7) (N := 22) hx hb ht inX7 hown hK.1 hP11 0 rfl rfl 14 (by decide) (ht _ q_680) (fun _ h9 => h9) rfl dX7_see_54 ?_
        refine lv_aload_n hx hb dX7_see_57 rfl (lv_at hl 0 rfl) ?_
        refine va_get (ci := 7) (v := .int (nI z)) (C := RX7) (T := TX7) (N := 22) hx hb ht inX7 hown hK.1 hP11 0 rfl rfl 13 (by decide) (ht _ q_679) (fun _ h9 => h9) rfl dX7_see_58 ?_
        refine lv_iload_n hx hb dX7_see_61 rfl (lv_at hl 1 rfl) ?_
        refine k_iast kx hK hP11 hD12 hS10 1 rfl z rfl (by omega) (by decide) dX7_see_62 (fun H13 locs13 hP13 hD13 hS13 => ?_)
        have hP14 : va_P G.1 vwCl ([(h0, .inr (7, cM (upd (upd Z 13 (nI z)) 0 0) q1 q2 q3 q4 q5 q6 q7 q8 q9 q10 q11 sd)), (q9, .inl (G.2.1, 6, .inl (upd sa z p0))), (q10, .inl (G.2.1, 6, .inl se)), (q11, .inl (G.2.1, 6, .inl sm))]) H13 := hP13
        have hD15 : va_D A ([(h0, .inr (7, cM (upd (upd Z 13 (nI z)) 0 0) q1 q2 q3 q4 q5 q6 q7 q8 q9 q10 q11 sd)), (q9, .inl (G.2.1, 6, .inl (upd sa z p0))), (q10, .inl (G.2.1, 6, .inl se)), (q11, .inl (G.2.1, 6, .inl sm))]) := hD13
        refine lv_aload_n hx hb dX7_see_63 rfl (lv_at hl 0 rfl) ?_
        refine va_get (ci := 7) (v := .ref q10) (C := RX7) (T := TX7) (N := 22) hx hb ht inX7 hown hK.1 hP14 0 rfl rfl 15 (by decide) (ht _ q_681) (fun _ h9 => h9) rfl dX7_see_64 ?_
        refine lv_aload_n hx hb dX7_see_67 rfl (lv_at hl 0 rfl) ?_
        refine va_get (ci := 7) (v := .int (nI z)) (C := RX7) (T := TX7) (N := 22) hx hb ht inX7 hown hK.1 hP14 0 rfl rfl 13 (by decide) (ht _ q_679) (fun _ h9 => h9) rfl dX7_see_68 ?_
        refine lv_iload_n hx hb dX7_see_71 rfl (lv_at hl 2 rfl) ?_
        refine k_iast kx hK hP14 hD15 hS13 2 rfl z rfl (by omega) (by decide) dX7_see_72 (fun H16 locs16 hP16 hD16 hS16 => ?_)
        have hP17 : va_P G.1 vwCl ([(h0, .inr (7, cM (upd (upd Z 13 (nI z)) 0 0) q1 q2 q3 q4 q5 q6 q7 q8 q9 q10 q11 sd)), (q9, .inl (G.2.1, 6, .inl (upd sa z p0))), (q10, .inl (G.2.1, 6, .inl (upd se z 0))), (q11, .inl (G.2.1, 6, .inl sm))]) H16 := hP16
        have hD18 : va_D A ([(h0, .inr (7, cM (upd (upd Z 13 (nI z)) 0 0) q1 q2 q3 q4 q5 q6 q7 q8 q9 q10 q11 sd)), (q9, .inl (G.2.1, 6, .inl (upd sa z p0))), (q10, .inl (G.2.1, 6, .inl (upd se z 0))), (q11, .inl (G.2.1, 6, .inl sm))]) := hD16
        refine lv_aload_n hx hb dX7_see_73 rfl (lv_at hl 0 rfl) ?_
        refine va_get (ci := 7) (v := .ref q11) (C := RX7) (T := TX7) (N := 22) hx hb ht inX7 hown hK.1 hP17 0 rfl rfl 16 (by decide) (ht _ q_682) (fun _ h9 => h9) rfl dX7_see_74 ?_
        refine lv_aload_n hx hb dX7_see_77 rfl (lv_at hl 0 rfl) ?_
        refine va_get (ci := 7) (v := .int (nI z)) (C := RX7) (T := TX7) (N := 22) hx hb ht inX7 hown hK.1 hP17 0 rfl rfl 13 (by decide) (ht _ q_679) (fun _ h9 => h9) rfl dX7_see_78 ?_
        refine lv_iload_n hx hb dX7_see_81 rfl (lv_at hl 3 rfl) ?_
        refine k_iast kx hK hP17 hD18 hS16 3 rfl z rfl (by omega) (by decide) dX7_see_82 (fun H19 locs19 hP19 hD19 hS19 => ?_)
        have hP20 : va_P G.1 vwCl ([(h0, .inr (7, cM (upd (upd Z 13 (nI z)) 0 0) q1 q2 q3 q4 q5 q6 q7 q8 q9 q10 q11 sd)), (q9, .inl (G.2.1, 6, .inl (upd sa z p0))), (q10, .inl (G.2.1, 6, .inl (upd se z 0))), (q11, .inl (G.2.1, 6, .inl (upd sm z p2)))]) H19 := hP19
        have hD21 : va_D A ([(h0, .inr (7, cM (upd (upd Z 13 (nI z)) 0 0) q1 q2 q3 q4 q5 q6 q7 q8 q9 q10 q11 sd)), (q9, .inl (G.2.1, 6, .inl (upd sa z p0))), (q10, .inl (G.2.1, 6, .inl (upd se z 0))), (q11, .inl (G.2.1, 6, .inl (upd sm z p2)))]) := hD19
        refine lv_aload_n hx hb dX7_see_83 rfl (lv_at hl 0 rfl) ?_
        refine lv_dup hx hb dX7_see_84 rfl ?_
        refine va_get (ci := 7) (v := .int (nI z)) (C := RX7) (T := TX7) (N := 22) hx hb ht inX7 hown hK.1 hP20 0 rfl rfl 13 (by decide) (ht _ q_679) (fun _ h9 => h9) rfl dX7_see_85 ?_
        refine lv_iconst (v := 1) hx hb dX7_see_88 (by decide) ?_
        refine lv_iadd hx hb dX7_see_89 ?_
        refine va_put (ci := 7) (v := .int ((nI z) + 1)) (ty := .int) (C := RX7) (T := TX7) (N := 22) hx hb ht inX7 tyX7 tyX7_ok nmX7 hown hK.1 hP20 hD21 hS19 0 rfl rfl 13 (by decide) (ht _ q_679) (fun _ h9 => h9) rfl (by decide +kernel) rfl rfl (Nat.le_of_ble_eq_true rfl) dX7_see_90 (fun H22 locs22 hP22 hD22 hS22 => ?_)
        have hP23 : va_P G.1 vwCl ([(h0, .inr (7, cM (upd (upd (upd Z 13 (nI z)) 0 0) 13 ((nI z) + 1)) q1 q2 q3 q4 q5 q6 q7 q8 q9 q10 q11 sd)), (q9, .inl (G.2.1, 6, .inl (upd sa z p0))), (q10, .inl (G.2.1, 6, .inl (upd se z 0))), (q11, .inl (G.2.1, 6, .inl (upd sm z p2)))]) H22 := hP22
        have hD24 : va_D A ([(h0, .inr (7, cM (upd (upd (upd Z 13 (nI z)) 0 0) 13 ((nI z) + 1)) q1 q2 q3 q4 q5 q6 q7 q8 q9 q10 q11 sd)), (q9, .inl (G.2.1, 6, .inl (upd sa z p0))), (q10, .inl (G.2.1, 6, .inl (upd se z 0))), (q11, .inl (G.2.1, 6, .inl (upd sm z p2)))]) := hD22
        refine lv_aload_n hx hb dX7_see_93 rfl (lv_at hl 0 rfl) ?_
        refine va_get (ci := 7) (v := .int ((nI z) + 1)) (C := RX7) (T := TX7) (N := 22) hx hb ht inX7 hown hK.1 hP23 0 rfl rfl 13 (by decide) (ht _ q_679) (fun _ h9 => h9) rfl dX7_see_94 ?_
        have er : r_X7_see_0 z p0 p2 = (nI z) + 1 := by rw [r_X7_see_0]; (try rw [hr3]); (try rw [hr5]); rw [if_neg c4, if_neg c6, if_neg c7]
        have e0 : s_X7_see_0_Z Z z p0 p2 = upd (upd (upd Z 13 (nI z)) 0 0) 13 ((nI z) + 1) := by rw [s_X7_see_0_Z]; (try rw [hr3]); (try rw [hr5]); rw [if_neg c4, if_neg c6, if_neg c7]
        have e1 : s_X7_see_0_sa z sa p0 p2 = upd sa z p0 := by rw [s_X7_see_0_sa]; (try rw [hr3]); (try rw [hr5]); rw [if_neg c4, if_neg c6, if_neg c7]
        have e2 : s_X7_see_0_se z se p0 p2 = upd se z 0 := by rw [s_X7_see_0_se]; (try rw [hr3]); (try rw [hr5]); rw [if_neg c4, if_neg c6, if_neg c7]
        have e3 : s_X7_see_0_sm z sm p0 p2 = upd sm z p2 := by rw [s_X7_see_0_sm]; (try rw [hr3]); (try rw [hr5]); rw [if_neg c4, if_neg c6, if_neg c7]
        exact k_iret kx hK hP23 hD24 hS22 (u := (upd (upd (upd Z 13 (nI z)) 0 0) 13 ((nI z) + 1), upd sa z p0, upd se z 0, upd sm z p2)) rfl ⟨er.symm, e0.symm, e1.symm, e2.symm, e3.symm⟩ dX7_see_97
      · skip
        refine lv_bipush (v := (-4)) hx hb dX7_see_50 (by decide) ?_
        have er : r_X7_see_0 z p0 p2 = (-4) := by rw [r_X7_see_0]; (try rw [hr3]); (try rw [hr5]); rw [if_neg c4, if_neg c6, if_pos c7]
        have e0 : s_X7_see_0_Z Z z p0 p2 = upd (upd Z 13 (nI z)) 0 0 := by rw [s_X7_see_0_Z]; (try rw [hr3]); (try rw [hr5]); rw [if_neg c4, if_neg c6, if_pos c7]
        have e1 : s_X7_see_0_sa z sa p0 p2 = sa := by rw [s_X7_see_0_sa]; (try rw [hr3]); (try rw [hr5]); rw [if_neg c4, if_neg c6, if_pos c7]
        have e2 : s_X7_see_0_se z se p0 p2 = se := by rw [s_X7_see_0_se]; (try rw [hr3]); (try rw [hr5]); rw [if_neg c4, if_neg c6, if_pos c7]
        have e3 : s_X7_see_0_sm z sm p0 p2 = sm := by rw [s_X7_see_0_sm]; (try rw [hr3]); (try rw [hr5]); rw [if_neg c4, if_neg c6, if_pos c7]
        exact k_iret kx hK hP11 hD12 hS10 (u := (upd (upd Z 13 (nI z)) 0 0, sa, se, sm)) rfl ⟨er.symm, e0.symm, e1.symm, e2.symm, e3.symm⟩ dX7_see_52
    · skip
      refine lv_bipush (v := (-2)) hx hb dX7_see_38 (by decide) ?_
      have er : r_X7_see_0 z p0 p2 = (-2) := by rw [r_X7_see_0]; (try rw [hr3]); (try rw [hr5]); rw [if_neg c4, if_pos c6]
      have e0 : s_X7_see_0_Z Z z p0 p2 = upd (upd Z 13 (nI z)) 0 0 := by rw [s_X7_see_0_Z]; (try rw [hr3]); (try rw [hr5]); rw [if_neg c4, if_pos c6]
      have e1 : s_X7_see_0_sa z sa p0 p2 = sa := by rw [s_X7_see_0_sa]; (try rw [hr3]); (try rw [hr5]); rw [if_neg c4, if_pos c6]
      have e2 : s_X7_see_0_se z se p0 p2 = se := by rw [s_X7_see_0_se]; (try rw [hr3]); (try rw [hr5]); rw [if_neg c4, if_pos c6]
      have e3 : s_X7_see_0_sm z sm p0 p2 = sm := by rw [s_X7_see_0_sm]; (try rw [hr3]); (try rw [hr5]); rw [if_neg c4, if_pos c6]
      exact k_iret kx hK hP11 hD12 hS10 (u := (upd (upd Z 13 (nI z)) 0 0, sa, se, sm)) rfl ⟨er.symm, e0.symm, e1.symm, e2.symm, e3.symm⟩ dX7_see_40

def r_X7_see_1 (z : Nat) (p0 : Int32) (p2 : Int32) : Int32 := if (r_X7_in p0.toInt64 0 99) = 0 then (-2) else if (r_X7_in p2.toInt64 0 2) = 0 then (-2) else if nI z = 6 then (-4) else (nI z) + 1
def s_X7_see_1_Z (Z : Nat → Int32) (z : Nat) (p0 : Int32) (p2 : Int32) : Nat → Int32 := if (r_X7_in p0.toInt64 0 99) = 0 then (upd (upd Z 13 (nI z)) 0 0) else if (r_X7_in p2.toInt64 0 2) = 0 then (upd (upd Z 13 (nI z)) 0 0) else if nI z = 6 then (upd (upd Z 13 (nI z)) 0 0) else upd (upd (upd Z 13 (nI z)) 0 0) 13 ((nI z) + 1)
def s_X7_see_1_sa (z : Nat) (sa : Nat → Int32) (p0 : Int32) (p2 : Int32) : Nat → Int32 := if (r_X7_in p0.toInt64 0 99) = 0 then sa else if (r_X7_in p2.toInt64 0 2) = 0 then sa else if nI z = 6 then sa else upd sa z p0
def s_X7_see_1_se (z : Nat) (se : Nat → Int32) (p0 : Int32) (p2 : Int32) : Nat → Int32 := if (r_X7_in p0.toInt64 0 99) = 0 then se else if (r_X7_in p2.toInt64 0 2) = 0 then se else if nI z = 6 then se else upd se z 1
def s_X7_see_1_sm (z : Nat) (sm : Nat → Int32) (p0 : Int32) (p2 : Int32) : Nat → Int32 := if (r_X7_in p0.toInt64 0 99) = 0 then sm else if (r_X7_in p2.toInt64 0 2) = 0 then sm else if nI z = 6 then sm else upd sm z p2
set_option maxHeartbeats 4000000 in
set_option maxRecDepth 100000 in
theorem c_X7_see_1 (l : Launch) (G : kG) (Z : Nat → Int32) (z : Nat) (sd : Int64) (h0 : Nat) (q1 : Nat) (q2 : Nat) (q3 : Nat) (q4 : Nat) (q5 : Nat) (q6 : Nat) (q7 : Nat) (q8 : Nat) (q9 : Nat) (q10 : Nat) (q11 : Nat) (sa : Nat → Int32) (se : Nat → Int32) (sm : Nat → Int32) (p0 : Int32) (p2 : Int32) (hz : z ≤ 6) : cG l G yX7_see cX7_see 4 (some .int) 2 [.ref h0, .int p0, .int 1, .int p2] ([(h0, .inr (7, cM (upd Z 13 (nI z)) q1 q2 q3 q4 q5 q6 q7 q8 q9 q10 q11 sd)), (q9, .inl (G.2.1, 6, .inl sa)), (q10, .inl (G.2.1, 6, .inl se)), (q11, .inl (G.2.1, 6, .inl sm))]) (qI G (fun (r : Int32) (u : ((Nat → Int32) × (Nat → Int32) × (Nat → Int32) × (Nat → Int32))) => r = r_X7_see_1 z p0 p2 ∧ u.1 = s_X7_see_1_Z Z z p0 p2 ∧ u.2.1 = s_X7_see_1_sa z sa p0 p2 ∧ u.2.2.1 = s_X7_see_1_se z se p0 p2 ∧ u.2.2.2 = s_X7_see_1_sm z sm p0 p2) (fun u => [(h0, .inr (7, cM u.1 q1 q2 q3 q4 q5 q6 q7 q8 q9 q10 q11 sd)), (q9, .inl (G.2.1, 6, .inl u.2.1)), (q10, .inl (G.2.1, 6, .inl u.2.2.1)), (q11, .inl (G.2.1, 6, .inl u.2.2.2))])) := by
  refine kintro (by decide) (Nat.le_of_ble_eq_true rfl) ?_
  intro p e s m args below meth c A ls kx hK hP hD hS hA hl
  have kx : kX p s m args meth c cX7_see 4 (some .int) RX7 := kx
  have hx := kx.1
  have hb := kx.2.1
  have hown := kx.2.2.2.2.1
  have ht := kx.2.2.2.2.2.2
  have hl : lv_has ls 4 [(0, .ref h0), (1, .int p0), (2, .int 1), (3, .int p2)] := hl
  refine lv_aload_n hx hb dX7_see_0 rfl (lv_at hl 0 rfl) ?_
  refine lv_iconst (v := 0) hx hb dX7_see_1 (by decide) ?_
  refine va_put (ci := 7) (v := .int 0) (ty := .int) (C := RX7) (T := TX7) (N := 22) hx hb ht inX7 tyX7 tyX7_ok nmX7 hown hK.1 hP hD hS 0 rfl rfl 0 (by decide) (ht _ q_666) (fun _ h9 => h9) rfl (by decide +kernel) rfl rfl (Nat.le_of_ble_eq_true rfl) dX7_see_2 (fun H1 locs1 hP1 hD1 hS1 => ?_)
  have hP2 : va_P G.1 vwCl ([(h0, .inr (7, cM (upd (upd Z 13 (nI z)) 0 0) q1 q2 q3 q4 q5 q6 q7 q8 q9 q10 q11 sd)), (q9, .inl (G.2.1, 6, .inl sa)), (q10, .inl (G.2.1, 6, .inl se)), (q11, .inl (G.2.1, 6, .inl sm))]) H1 := hP1
  have hD3 : va_D A ([(h0, .inr (7, cM (upd (upd Z 13 (nI z)) 0 0) q1 q2 q3 q4 q5 q6 q7 q8 q9 q10 q11 sd)), (q9, .inl (G.2.1, 6, .inl sa)), (q10, .inl (G.2.1, 6, .inl se)), (q11, .inl (G.2.1, 6, .inl sm))]) := hD1
  refine lv_iload_n hx hb dX7_see_5 rfl (lv_at hl 2 rfl) ?_
  refine k_calli (kRunS (As := [.int 1]) (rest := []) kx (c_X7_noEnd_1 l G ) q_824 q_822 q_36 q_823 nX7_noEnd ⟨Nat.le_of_ble_eq_true rfl, Nat.le_of_ble_eq_true rfl⟩ hK hP2 hD3 (kCtx_nil _) rfl hl.1 (Nat.le_of_ble_eq_true rfl) dX7_see_6 ⟨Nat.zero_le _, Nat.zero_le _⟩) hP2 hD3 hS1 hA (kCtx_nil _) (fun _ => rfl) (fun r1 _ H4 locs4 hw hP4 hD4 hS4 => ?_)
  have hr1 : 0 = r1 := (show r1 = 0 from hw).symm
  subst hr1
  have hP5 : va_P G.1 vwCl ([(h0, .inr (7, cM (upd (upd Z 13 (nI z)) 0 0) q1 q2 q3 q4 q5 q6 q7 q8 q9 q10 q11 sd)), (q9, .inl (G.2.1, 6, .inl sa)), (q10, .inl (G.2.1, 6, .inl se)), (q11, .inl (G.2.1, 6, .inl sm))]) H4 := hP4
  have hD6 : va_D A ([(h0, .inr (7, cM (upd (upd Z 13 (nI z)) 0 0) q1 q2 q3 q4 q5 q6 q7 q8 q9 q10 q11 sd)), (q9, .inl (G.2.1, 6, .inl sa)), (q10, .inl (G.2.1, 6, .inl se)), (q11, .inl (G.2.1, 6, .inl sm))]) := hD4
  refine lv_if_eq (x := 0) (tgt := 14) hx hb dX7_see_9 (by decide) (fun (c2 : 0 = 0) => ?_) (fun (c2 : ¬ (0 = 0)) => absurd (by decide) c2)
  refine lv_iload_n hx hb dX7_see_14 rfl (lv_at hl 1 rfl) ?_
  refine lv_i2l (v := p0.toInt64) hx hb dX7_see_15 rfl ?_
  refine lv_lconst (v := 0) hx hb dX7_see_16 (by decide) ?_
  refine lv_ldc2 (v := 99) hx hb hown (ht _ q_897) dX7_see_17 ?_
  refine k_calli (kRunS (As := [.long p0.toInt64, .long 0, .long 99]) (rest := []) kx (c_X7_in l G p0.toInt64 0 99) q_740 q_738 q_36 q_739 nX7_in ⟨Nat.le_of_ble_eq_true rfl, Nat.le_of_ble_eq_true rfl⟩ hK hP5 hD6 (kCtx_nil _) rfl hl.1 (Nat.le_of_ble_eq_true rfl) dX7_see_20 ⟨Nat.zero_le _, Nat.zero_le _⟩) hP5 hD6 hS4 hA (kCtx_nil _) (fun _ => rfl) (fun r3 _ H7 locs7 hw hP7 hD7 hS7 => ?_)
  have hr3 : r_X7_in p0.toInt64 0 99 = r3 := (show r3 = r_X7_in p0.toInt64 0 99 from hw).symm
  have hP8 : va_P G.1 vwCl ([(h0, .inr (7, cM (upd (upd Z 13 (nI z)) 0 0) q1 q2 q3 q4 q5 q6 q7 q8 q9 q10 q11 sd)), (q9, .inl (G.2.1, 6, .inl sa)), (q10, .inl (G.2.1, 6, .inl se)), (q11, .inl (G.2.1, 6, .inl sm))]) H7 := hP7
  have hD9 : va_D A ([(h0, .inr (7, cM (upd (upd Z 13 (nI z)) 0 0) q1 q2 q3 q4 q5 q6 q7 q8 q9 q10 q11 sd)), (q9, .inl (G.2.1, 6, .inl sa)), (q10, .inl (G.2.1, 6, .inl se)), (q11, .inl (G.2.1, 6, .inl sm))]) := hD7
  refine lv_if_eq (x := r3) (tgt := 38) hx hb dX7_see_23 (by decide) (fun (c4 : r3 = 0) => ?_) (fun (c4 : ¬ (r3 = 0)) => ?_)
  · skip
    refine lv_bipush (v := (-2)) hx hb dX7_see_38 (by decide) ?_
    have er : r_X7_see_1 z p0 p2 = (-2) := by rw [r_X7_see_1]; (try rw [hr3]); rw [if_pos c4]
    have e0 : s_X7_see_1_Z Z z p0 p2 = upd (upd Z 13 (nI z)) 0 0 := by rw [s_X7_see_1_Z]; (try rw [hr3]); rw [if_pos c4]
    have e1 : s_X7_see_1_sa z sa p0 p2 = sa := by rw [s_X7_see_1_sa]; (try rw [hr3]); rw [if_pos c4]
    have e2 : s_X7_see_1_se z se p0 p2 = se := by rw [s_X7_see_1_se]; (try rw [hr3]); rw [if_pos c4]
    have e3 : s_X7_see_1_sm z sm p0 p2 = sm := by rw [s_X7_see_1_sm]; (try rw [hr3]); rw [if_pos c4]
    exact k_iret kx hK hP8 hD9 hS7 (u := (upd (upd Z 13 (nI z)) 0 0, sa, se, sm)) rfl ⟨er.symm, e0.symm, e1.symm, e2.symm, e3.symm⟩ dX7_see_40
  · skip
    obtain ⟨nnc4, nmc4⟩ := kin_of (x := p0) (a := 0) (N := 99) (by rw [hr3]; exact c4) (by decide) (by decide)
    refine lv_iload_n hx hb dX7_see_26 rfl (lv_at hl 3 rfl) ?_
    refine lv_i2l (v := p2.toInt64) hx hb dX7_see_27 rfl ?_
    refine lv_lconst (v := 0) hx hb dX7_see_28 (by decide) ?_
    refine lv_ldc2 (v := 2) hx hb hown (ht _ q_860) dX7_see_29 ?_
    refine k_calli (kRunS (As := [.long p2.toInt64, .long 0, .long 2]) (rest := []) kx (c_X7_in l G p2.toInt64 0 2) q_740 q_738 q_36 q_739 nX7_in ⟨Nat.le_of_ble_eq_true rfl, Nat.le_of_ble_eq_true rfl⟩ hK hP8 hD9 (kCtx_nil _) rfl hl.1 (Nat.le_of_ble_eq_true rfl) dX7_see_32 ⟨Nat.zero_le _, Nat.zero_le _⟩) hP8 hD9 hS7 hA (kCtx_nil _) (fun _ => rfl) (fun r5 _ H10 locs10 hw hP10 hD10 hS10 => ?_)
    have hr5 : r_X7_in p2.toInt64 0 2 = r5 := (show r5 = r_X7_in p2.toInt64 0 2 from hw).symm
    have hP11 : va_P G.1 vwCl ([(h0, .inr (7, cM (upd (upd Z 13 (nI z)) 0 0) q1 q2 q3 q4 q5 q6 q7 q8 q9 q10 q11 sd)), (q9, .inl (G.2.1, 6, .inl sa)), (q10, .inl (G.2.1, 6, .inl se)), (q11, .inl (G.2.1, 6, .inl sm))]) H10 := hP10
    have hD12 : va_D A ([(h0, .inr (7, cM (upd (upd Z 13 (nI z)) 0 0) q1 q2 q3 q4 q5 q6 q7 q8 q9 q10 q11 sd)), (q9, .inl (G.2.1, 6, .inl sa)), (q10, .inl (G.2.1, 6, .inl se)), (q11, .inl (G.2.1, 6, .inl sm))]) := hD10
    refine lv_if_ne (x := r5) (tgt := 41) hx hb dX7_see_35 (by decide) (fun (c6 : ¬ (r5 = 0)) => ?_) (fun (c6 : r5 = 0) => ?_)
    · skip
      obtain ⟨nnc6, nmc6⟩ := kin_of (x := p2) (a := 0) (N := 2) (by rw [hr5]; exact c6) (by decide) (by decide)
      refine lv_aload_n hx hb dX7_see_41 rfl (lv_at hl 0 rfl) ?_
      refine va_get (ci := 7) (v := .int (nI z)) (C := RX7) (T := TX7) (N := 22) hx hb ht inX7 hown hK.1 hP11 0 rfl rfl 13 (by decide) (ht _ q_679) (fun _ h9 => h9) rfl dX7_see_42 ?_
      refine lv_bipush (v := 6) hx hb dX7_see_45 (by decide) ?_
      refine lv_icmp_ne (x := nI z) (y := 6) (tgt := 53) hx hb dX7_see_47 (by decide) (fun (c7 : ¬ (nI z = 6)) => ?_) (fun (c7 : nI z = 6) => ?_)
      · skip
        have nec7 : z ≠ 6 := fun q => c7 (by rw [q]; rfl)
        refine lv_aload_n hx hb dX7_see_53 rfl (lv_at hl 0 rfl) ?_
        refine va_get (ci := 7) (v := .ref q9) (C := RX7) (T := TX7) (N := 22) hx hb ht inX7 hown hK.1 hP11 0 rfl rfl 14 (by decide) (ht _ q_680) (fun _ h9 => h9) rfl dX7_see_54 ?_
        refine lv_aload_n hx hb dX7_see_57 rfl (lv_at hl 0 rfl) ?_
        refine va_get (ci := 7) (v := .int (nI z)) (C := RX7) (T := TX7) (N := 22) hx hb ht inX7 hown hK.1 hP11 0 rfl rfl 13 (by decide) (ht _ q_679) (fun _ h9 => h9) rfl dX7_see_58 ?_
        refine lv_iload_n hx hb dX7_see_61 rfl (lv_at hl 1 rfl) ?_
        refine k_iast kx hK hP11 hD12 hS10 1 rfl z rfl (by omega) (by decide) dX7_see_62 (fun H13 locs13 hP13 hD13 hS13 => ?_)
        have hP14 : va_P G.1 vwCl ([(h0, .inr (7, cM (upd (upd Z 13 (nI z)) 0 0) q1 q2 q3 q4 q5 q6 q7 q8 q9 q10 q11 sd)), (q9, .inl (G.2.1, 6, .inl (upd sa z p0))), (q10, .inl (G.2.1, 6, .inl se)), (q11, .inl (G.2.1, 6, .inl sm))]) H13 := hP13
        have hD15 : va_D A ([(h0, .inr (7, cM (upd (upd Z 13 (nI z)) 0 0) q1 q2 q3 q4 q5 q6 q7 q8 q9 q10 q11 sd)), (q9, .inl (G.2.1, 6, .inl (upd sa z p0))), (q10, .inl (G.2.1, 6, .inl se)), (q11, .inl (G.2.1, 6, .inl sm))]) := hD13
        refine lv_aload_n hx hb dX7_see_63 rfl (lv_at hl 0 rfl) ?_
        refine va_get (ci := 7) (v := .ref q10) (C := RX7) (T := TX7) (N := 22) hx hb ht inX7 hown hK.1 hP14 0 rfl rfl 15 (by decide) (ht _ q_681) (fun _ h9 => h9) rfl dX7_see_64 ?_
        refine lv_aload_n hx hb dX7_see_67 rfl (lv_at hl 0 rfl) ?_
        refine va_get (ci := 7) (v := .int (nI z)) (C := RX7) (T := TX7) (N := 22) hx hb ht inX7 hown hK.1 hP14 0 rfl rfl 13 (by decide) (ht _ q_679) (fun _ h9 => h9) rfl dX7_see_68 ?_
        refine lv_iload_n hx hb dX7_see_71 rfl (lv_at hl 2 rfl) ?_
        refine k_iast kx hK hP14 hD15 hS13 2 rfl z rfl (by omega) (by decide) dX7_see_72 (fun H16 locs16 hP16 hD16 hS16 => ?_)
        have hP17 : va_P G.1 vwCl ([(h0, .inr (7, cM (upd (upd Z 13 (nI z)) 0 0) q1 q2 q3 q4 q5 q6 q7 q8 q9 q10 q11 sd)), (q9, .inl (G.2.1, 6, .inl (upd sa z p0))), (q10, .inl (G.2.1, 6, .inl (upd se z 1))), (q11, .inl (G.2.1, 6, .inl sm))]) H16 := hP16
        have hD18 : va_D A ([(h0, .inr (7, cM (upd (upd Z 13 (nI z)) 0 0) q1 q2 q3 q4 q5 q6 q7 q8 q9 q10 q11 sd)), (q9, .inl (G.2.1, 6, .inl (upd sa z p0))), (q10, .inl (G.2.1, 6, .inl (upd se z 1))), (q11, .inl (G.2.1, 6, .inl sm))]) := hD16
        refine lv_aload_n hx hb dX7_see_73 rfl (lv_at hl 0 rfl) ?_
        refine va_get (ci := 7) (v := .ref q11) (C := RX7) (T := TX7) (N := 22) hx hb ht inX7 hown hK.1 hP17 0 rfl rfl 16 (by decide) (ht _ q_682) (fun _ h9 => h9) rfl dX7_see_74 ?_
        refine lv_aload_n hx hb dX7_see_77 rfl (lv_at hl 0 rfl) ?_
        refine va_get (ci := 7) (v := .int (nI z)) (C := RX7) (T := TX7) (N := 22) hx hb ht inX7 hown hK.1 hP17 0 rfl rfl 13 (by decide) (ht _ q_679) (fun _ h9 => h9) rfl dX7_see_78 ?_
        refine lv_iload_n hx hb dX7_see_81 rfl (lv_at hl 3 rfl) ?_
        refine k_iast kx hK hP17 hD18 hS16 3 rfl z rfl (by omega) (by decide) dX7_see_82 (fun H19 locs19 hP19 hD19 hS19 => ?_)
        have hP20 : va_P G.1 vwCl ([(h0, .inr (7, cM (upd (upd Z 13 (nI z)) 0 0) q1 q2 q3 q4 q5 q6 q7 q8 q9 q10 q11 sd)), (q9, .inl (G.2.1, 6, .inl (upd sa z p0))), (q10, .inl (G.2.1, 6, .inl (upd se z 1))), (q11, .inl (G.2.1, 6, .inl (upd sm z p2)))]) H19 := hP19
        have hD21 : va_D A ([(h0, .inr (7, cM (upd (upd Z 13 (nI z)) 0 0) q1 q2 q3 q4 q5 q6 q7 q8 q9 q10 q11 sd)), (q9, .inl (G.2.1, 6, .inl (upd sa z p0))), (q10, .inl (G.2.1, 6, .inl (upd se z 1))), (q11, .inl (G.2.1, 6, .inl (upd sm z p2)))]) := hD19
        refine lv_aload_n hx hb dX7_see_83 rfl (lv_at hl 0 rfl) ?_
        refine lv_dup hx hb dX7_see_84 rfl ?_
        refine va_get (ci := 7) (v := .int (nI z)) (C := RX7) (T := TX7) (N := 22) hx hb ht inX7 hown hK.1 hP20 0 rfl rfl 13 (by decide) (ht _ q_679) (fun _ h9 => h9) rfl dX7_see_85 ?_
        refine lv_iconst (v := 1) hx hb dX7_see_88 (by decide) ?_
        refine lv_iadd hx hb dX7_see_89 ?_
        refine va_put (ci := 7) (v := .int ((nI z) + 1)) (ty := .int) (C := RX7) (T := TX7) (N := 22) hx hb ht inX7 tyX7 tyX7_ok nmX7 hown hK.1 hP20 hD21 hS19 0 rfl rfl 13 (by decide) (ht _ q_679) (fun _ h9 => h9) rfl (by decide +kernel) rfl rfl (Nat.le_of_ble_eq_true rfl) dX7_see_90 (fun H22 locs22 hP22 hD22 hS22 => ?_)
        have hP23 : va_P G.1 vwCl ([(h0, .inr (7, cM (upd (upd (upd Z 13 (nI z)) 0 0) 13 ((nI z) + 1)) q1 q2 q3 q4 q5 q6 q7 q8 q9 q10 q11 sd)), (q9, .inl (G.2.1, 6, .inl (upd sa z p0))), (q10, .inl (G.2.1, 6, .inl (upd se z 1))), (q11, .inl (G.2.1, 6, .inl (upd sm z p2)))]) H22 := hP22
        have hD24 : va_D A ([(h0, .inr (7, cM (upd (upd (upd Z 13 (nI z)) 0 0) 13 ((nI z) + 1)) q1 q2 q3 q4 q5 q6 q7 q8 q9 q10 q11 sd)), (q9, .inl (G.2.1, 6, .inl (upd sa z p0))), (q10, .inl (G.2.1, 6, .inl (upd se z 1))), (q11, .inl (G.2.1, 6, .inl (upd sm z p2)))]) := hD22
        refine lv_aload_n hx hb dX7_see_93 rfl (lv_at hl 0 rfl) ?_
        refine va_get (ci := 7) (v := .int ((nI z) + 1)) (C := RX7) (T := TX7) (N := 22) hx hb ht inX7 hown hK.1 hP23 0 rfl rfl 13 (by decide) (ht _ q_679) (fun _ h9 => h9) rfl dX7_see_94 ?_
        have er : r_X7_see_1 z p0 p2 = (nI z) + 1 := by rw [r_X7_see_1]; (try rw [hr3]); (try rw [hr5]); rw [if_neg c4, if_neg c6, if_neg c7]
        have e0 : s_X7_see_1_Z Z z p0 p2 = upd (upd (upd Z 13 (nI z)) 0 0) 13 ((nI z) + 1) := by rw [s_X7_see_1_Z]; (try rw [hr3]); (try rw [hr5]); rw [if_neg c4, if_neg c6, if_neg c7]
        have e1 : s_X7_see_1_sa z sa p0 p2 = upd sa z p0 := by rw [s_X7_see_1_sa]; (try rw [hr3]); (try rw [hr5]); rw [if_neg c4, if_neg c6, if_neg c7]
        have e2 : s_X7_see_1_se z se p0 p2 = upd se z 1 := by rw [s_X7_see_1_se]; (try rw [hr3]); (try rw [hr5]); rw [if_neg c4, if_neg c6, if_neg c7]
        have e3 : s_X7_see_1_sm z sm p0 p2 = upd sm z p2 := by rw [s_X7_see_1_sm]; (try rw [hr3]); (try rw [hr5]); rw [if_neg c4, if_neg c6, if_neg c7]
        exact k_iret kx hK hP23 hD24 hS22 (u := (upd (upd (upd Z 13 (nI z)) 0 0) 13 ((nI z) + 1), upd sa z p0, upd se z 1, upd sm z p2)) rfl ⟨er.symm, e0.symm, e1.symm, e2.symm, e3.symm⟩ dX7_see_97
      · skip
        refine lv_bipush (v := (-4)) hx hb dX7_see_50 (by decide) ?_
        have er : r_X7_see_1 z p0 p2 = (-4) := by rw [r_X7_see_1]; (try rw [hr3]); (try rw [hr5]); rw [if_neg c4, if_neg c6, if_pos c7]
        have e0 : s_X7_see_1_Z Z z p0 p2 = upd (upd Z 13 (nI z)) 0 0 := by rw [s_X7_see_1_Z]; (try rw [hr3]); (try rw [hr5]); rw [if_neg c4, if_neg c6, if_pos c7]
        have e1 : s_X7_see_1_sa z sa p0 p2 = sa := by rw [s_X7_see_1_sa]; (try rw [hr3]); (try rw [hr5]); rw [if_neg c4, if_neg c6, if_pos c7]
        have e2 : s_X7_see_1_se z se p0 p2 = se := by rw [s_X7_see_1_se]; (try rw [hr3]); (try rw [hr5]); rw [if_neg c4, if_neg c6, if_pos c7]
        have e3 : s_X7_see_1_sm z sm p0 p2 = sm := by rw [s_X7_see_1_sm]; (try rw [hr3]); (try rw [hr5]); rw [if_neg c4, if_neg c6, if_pos c7]
        exact k_iret kx hK hP11 hD12 hS10 (u := (upd (upd Z 13 (nI z)) 0 0, sa, se, sm)) rfl ⟨er.symm, e0.symm, e1.symm, e2.symm, e3.symm⟩ dX7_see_52
    · skip
      refine lv_bipush (v := (-2)) hx hb dX7_see_38 (by decide) ?_
      have er : r_X7_see_1 z p0 p2 = (-2) := by rw [r_X7_see_1]; (try rw [hr3]); (try rw [hr5]); rw [if_neg c4, if_pos c6]
      have e0 : s_X7_see_1_Z Z z p0 p2 = upd (upd Z 13 (nI z)) 0 0 := by rw [s_X7_see_1_Z]; (try rw [hr3]); (try rw [hr5]); rw [if_neg c4, if_pos c6]
      have e1 : s_X7_see_1_sa z sa p0 p2 = sa := by rw [s_X7_see_1_sa]; (try rw [hr3]); (try rw [hr5]); rw [if_neg c4, if_pos c6]
      have e2 : s_X7_see_1_se z se p0 p2 = se := by rw [s_X7_see_1_se]; (try rw [hr3]); (try rw [hr5]); rw [if_neg c4, if_pos c6]
      have e3 : s_X7_see_1_sm z sm p0 p2 = sm := by rw [s_X7_see_1_sm]; (try rw [hr3]); (try rw [hr5]); rw [if_neg c4, if_pos c6]
      exact k_iret kx hK hP11 hD12 hS10 (u := (upd (upd Z 13 (nI z)) 0 0, sa, se, sm)) rfl ⟨er.symm, e0.symm, e1.symm, e2.symm, e3.symm⟩ dX7_see_40

set_option maxHeartbeats 4000000 in
set_option maxRecDepth 100000 in
theorem c_X7_see_x (l : Launch) (G : kG) (Z : Nat → Int32) (sd : Int64) (h0 : Nat) (q1 : Nat) (q2 : Nat) (q3 : Nat) (q4 : Nat) (q5 : Nat) (q6 : Nat) (q7 : Nat) (q8 : Nat) (q9 : Nat) (q10 : Nat) (q11 : Nat) (p1 : Int32) (p0 : Int32) (p2 : Int32) (h9 : ¬ p0 = 0) (h8 : ¬ p0 = 1) : cG l G yX7_see cX7_see 4 (some .int) 2 [.ref h0, .int p1, .int p0, .int p2] ([(h0, .inr (7, cM Z q1 q2 q3 q4 q5 q6 q7 q8 q9 q10 q11 sd))]) (qI G (fun (r : Int32) (_ : Unit) => r = (-1)) (fun _ => [(h0, .inr (7, cM (upd Z 0 0) q1 q2 q3 q4 q5 q6 q7 q8 q9 q10 q11 sd))])) := by
  refine kintro (by decide) (Nat.le_of_ble_eq_true rfl) ?_
  intro p e s m args below meth c A ls kx hK hP hD hS hA hl
  have kx : kX p s m args meth c cX7_see 4 (some .int) RX7 := kx
  have hx := kx.1
  have hb := kx.2.1
  have hown := kx.2.2.2.2.1
  have ht := kx.2.2.2.2.2.2
  have hl : lv_has ls 4 [(0, .ref h0), (1, .int p1), (2, .int p0), (3, .int p2)] := hl
  refine lv_aload_n hx hb dX7_see_0 rfl (lv_at hl 0 rfl) ?_
  refine lv_iconst (v := 0) hx hb dX7_see_1 (by decide) ?_
  refine va_put (ci := 7) (v := .int 0) (ty := .int) (C := RX7) (T := TX7) (N := 22) hx hb ht inX7 tyX7 tyX7_ok nmX7 hown hK.1 hP hD hS 0 rfl rfl 0 (by decide) (ht _ q_666) (fun _ h9 => h9) rfl (by decide +kernel) rfl rfl (Nat.le_of_ble_eq_true rfl) dX7_see_2 (fun H1 locs1 hP1 hD1 hS1 => ?_)
  have hP2 : va_P G.1 vwCl ([(h0, .inr (7, cM (upd Z 0 0) q1 q2 q3 q4 q5 q6 q7 q8 q9 q10 q11 sd))]) H1 := hP1
  have hD3 : va_D A ([(h0, .inr (7, cM (upd Z 0 0) q1 q2 q3 q4 q5 q6 q7 q8 q9 q10 q11 sd))]) := hD1
  refine lv_iload_n hx hb dX7_see_5 rfl (lv_at hl 2 rfl) ?_
  refine k_calli (kRunS (As := [.int p0]) (rest := []) kx (c_X7_noEnd_x l G p0 h9 h8) q_824 q_822 q_36 q_823 nX7_noEnd ⟨Nat.le_of_ble_eq_true rfl, Nat.le_of_ble_eq_true rfl⟩ hK hP2 hD3 (kCtx_nil _) rfl hl.1 (Nat.le_of_ble_eq_true rfl) dX7_see_6 ⟨Nat.zero_le _, Nat.zero_le _⟩) hP2 hD3 hS1 hA (kCtx_nil _) (fun _ => rfl) (fun r1 _ H4 locs4 hw hP4 hD4 hS4 => ?_)
  have hr1 : 1 = r1 := (show r1 = 1 from hw).symm
  subst hr1
  have hP5 : va_P G.1 vwCl ([(h0, .inr (7, cM (upd Z 0 0) q1 q2 q3 q4 q5 q6 q7 q8 q9 q10 q11 sd))]) H4 := hP4
  have hD6 : va_D A ([(h0, .inr (7, cM (upd Z 0 0) q1 q2 q3 q4 q5 q6 q7 q8 q9 q10 q11 sd))]) := hD4
  refine lv_if_eq (x := 1) (tgt := 14) hx hb dX7_see_9 (by decide) (fun (c2 : 1 = 0) => absurd c2 (by decide)) (fun (c2 : ¬ (1 = 0)) => ?_)
  refine lv_iconst (v := (-1)) hx hb dX7_see_12 (by decide) ?_
  exact k_iret kx hK hP5 hD6 hS4 (u := ()) rfl rfl dX7_see_13
