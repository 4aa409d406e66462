theorem b_l_X5_run : ∀ (n j : Nat) (g : Nat → Nat → Int32), bW g → bW (l_X5_run_1_g n j g)
  | 0, _, _, h => h
  | n + 1, j, g, h => b_l_X5_run n (j + 1) _ (b_s_X5_tick_g g h)
theorem b_s_X5_run_g (g : Nat → Nat → Int32) (p0 : Int32) (h : bW g) : bW (s_X5_run_g g p0) := b_l_X5_run _ _ _ h
theorem kne_of_ge {x : Int32} (h : (1 : Int32) ≤ x) : ¬ x = 0 := fun q => absurd (show (1 : Int32) ≤ 0 from q ▸ h) (by decide)
theorem kne_of_nlt {x : Int32} (h : ¬ x < (1 : Int32)) : ¬ x = 0 := fun q => h (by rw [q]; decide)

def l_X6_withoutLast_1_r : Nat → Nat → Int64 → Int64
  | 0, j1, v_1 => v_1
  | n1 + 1, j1, v_1 => l_X6_withoutLast_1_r n1 (j1 + 1) (v_1 / 1000)
def r_X6_withoutLast (p0 : Int64) (p1 : Int32) : Int64 := l_X6_withoutLast_1_r p1.toNatClampNeg 0 p0
set_option maxHeartbeats 4000000 in
set_option maxRecDepth 100000 in
theorem c_X6_withoutLast (l : Launch) (G : kG) (p0 : Int64) (p1 : Int32) : cG l G yX6_withoutLast cX6_withoutLast 6 (some .long) 0 [.long p0, .int p1] ([]) (qL G (fun (r : Int64) (_ : Unit) => r = r_X6_withoutLast p0 p1) (fun _ => [])) := by
  refine kintro (by decide) (Nat.le_of_ble_eq_true rfl) ?_
  intro p e s m args below meth c A ls kx hK hP hD hS hA hl
  have kx : kX p s m args meth c cX6_withoutLast 6 (some .long) RX6 := kx
  have hx := kx.1
  have hb := kx.2.1
  have hown := kx.2.2.2.2.1
  have ht := kx.2.2.2.2.2.2
  have hl : lv_has ls 6 [(0, .long p0), (2, .int p1)] := hl
  refine lv_lload_n hx hb dX6_withoutLast_0 rfl (lv_at hl 0 rfl) ?_
  refine lv_lstore_n (lv' := [(3, .long p0), (0, .long p0), (2, .int p1)]) hx hb dX6_withoutLast_1 rfl hl (by decide) rfl (fun ls1 hl1 => ?_)
  refine lv_iconst (v := 0) hx hb dX6_withoutLast_2 (by decide) ?_
  refine lv_istore (lv' := [(5, .int 0), (3, .long p0), (0, .long p0), (2, .int p1)]) hx hb dX6_withoutLast_3 hl1 (by decide) rfl (fun ls2 hl2 => ?_)
  have lp1 : ∀ (n1 j1 : Nat) (v_1 : Int64), j1 + n1 = p1.toNatClampNeg → (hr_1 : r_X6_withoutLast p0 p1 = l_X6_withoutLast_1_r n1 j1 v_1) → ∀ (H : Heap) (locs : List Loc) (ls : Array Slot), va_P G.1 vwCl ([]) H → va_D A ([]) → va_S A s.heap H locs → lv_has ls 6 [(0, .long p0), (2, .int p1), (3, .long v_1), (5, .int (nI j1))] → W p l e (kr 0) s m args below meth c H locs 0 0 (MQ below (qL G (fun (r : Int64) (_ : Unit) => r = r_X6_withoutLast p0 p1) (fun _ => []) A) args s 0 0 A) (F0 m 5 ls []) := by
    intro n1
    induction n1 with
    | zero =>
      intro j1 v_1 hj1 hr_1 H3 locs3 ls3 hP3 hD3 hS3 hl3
      refine lv_iload hx hb dX6_withoutLast_5 (lv_at hl3 3 rfl) ?_
      refine lv_iload_n hx hb dX6_withoutLast_7 rfl (lv_at hl3 1 rfl) ?_
      refine lv_icmp_ge (x := nI j1) (y := p1) (tgt := 23) hx hb dX6_withoutLast_8 (by decide) (fun (c1 : p1 ≤ nI j1) => ?_) (fun (c1 : ¬ (p1 ≤ nI j1)) => absurd (krun_z hj1) c1)
      refine lv_lload_n hx hb dX6_withoutLast_23 rfl (lv_at hl3 2 rfl) ?_
      have er : r_X6_withoutLast p0 p1 = v_1 := by rw [hr_1, l_X6_withoutLast_1_r]
      exact k_lret kx hK hP3 hD3 hS3 (u := ()) rfl er.symm dX6_withoutLast_24
    | succ n1 ih1 =>
      intro j1 v_1 hj1 hr_1 H3 locs3 ls3 hP3 hD3 hS3 hl3
      refine lv_iload hx hb dX6_withoutLast_5 (lv_at hl3 3 rfl) ?_
      refine lv_iload_n hx hb dX6_withoutLast_7 rfl (lv_at hl3 1 rfl) ?_
      refine lv_icmp_ge (x := nI j1) (y := p1) (tgt := 23) hx hb dX6_withoutLast_8 (by decide) (fun (c2 : p1 ≤ nI j1) => absurd c2 (krun_s hj1)) (fun (c2 : ¬ (p1 ≤ nI j1)) => ?_)
      refine lv_lload_n hx hb dX6_withoutLast_11 rfl (lv_at hl3 2 rfl) ?_
      refine lv_ldc2 (v := 1000) hx hb hown (ht _ q_546) dX6_withoutLast_12 ?_
      refine lv_ldiv hx hb dX6_withoutLast_15 (by decide) ?_
      refine lv_lstore_n (lv' := [(3, .long (v_1 / 1000)), (0, .long p0), (2, .int p1), (5, .int (nI j1))]) hx hb dX6_withoutLast_16 rfl hl3 (by decide) rfl (fun ls4 hl4 => ?_)
      refine lv_iinc (v := nI (j1 + 1)) (lv' := [(5, .int (nI (j1 + 1))), (3, .long (v_1 / 1000)), (0, .long p0), (2, .int p1)]) hx hb dX6_withoutLast_17 hl4 (k := 3) rfl (nI_1 j1) (by decide) rfl (fun ls5 hl5 => ?_)
      refine lv_goto (tgt := 5) hx hb dX6_withoutLast_20 (by decide) ?_
      have gr : r_X6_withoutLast p0 p1 = l_X6_withoutLast_1_r n1 (j1 + 1) (v_1 / 1000) := by rw [hr_1, l_X6_withoutLast_1_r]
      exact ih1 (j1 + 1) (v_1 / 1000) (by omega) gr _ _ _ hP3 hD3 hS3 (lv_sub hl5 [2, 3, 1, 0] rfl)
  have gr : r_X6_withoutLast p0 p1 = l_X6_withoutLast_1_r p1.toNatClampNeg 0 p0 := by rw [r_X6_withoutLast]
  exact lp1 p1.toNatClampNeg 0 p0 (by omega) gr _ _ _ hP hD hS (lv_sub hl2 [2, 3, 1, 0] rfl)

def r_X6_isSo (X : Nat → Int32) (p0 : Int32) (p1 : Int32) : Int32 := if p0 = 5 then (if X 5 = p1 then 1 else 0) else if p0 = 6 then (if (r_X6_oneIf (X 6)) = p1 then 1 else 0) else if (r_X0_pace X) = p1 then 1 else 0
set_option maxHeartbeats 4000000 in
set_option maxRecDepth 100000 in
theorem c_X6_isSo (l : Launch) (G : kG) (X : Nat → Int32) (h0 : Nat) (h1 : Nat) (p0 : Int32) (p1 : Int32) : cG l G yX6_isSo cX6_isSo 3 (some .boolean) 2 [.int p0, .ref h0, .int p1] ([(h0, .inr (0, cE X h1)), (h1, .inr (2, cT11 X))]) (qI G (fun (r : Int32) (_ : Unit) => r = r_X6_isSo X p0 p1) (fun _ => [(h0, .inr (0, cE X h1)), (h1, .inr (2, cT11 X))])) := by
  refine kintro (by decide) (Nat.le_of_ble_eq_true rfl) ?_
  intro p e s m args below meth c A ls kx hK hP hD hS hA hl
  have kx : kX p s m args meth c cX6_isSo 3 (some .boolean) RX6 := kx
  have hx := kx.1
  have hb := kx.2.1
  have hown := kx.2.2.2.2.1
  have ht := kx.2.2.2.2.2.2
  have hl : lv_has ls 3 [(0, .int p0), (1, .ref h0), (2, .int p1)] := hl
  refine lv_iload_n hx hb dX6_isSo_0 rfl (lv_at hl 0 rfl) ?_
  by_cases c1 : p0 = 5
  · skip
    refine lv_lookup (off := 27) (tgt := 28) hx hb dX6_isSo_1 (by decide +kernel) (by rw [c1]; rfl) (by decide) ?_
    refine lv_aload_n hx hb dX6_isSo_28 rfl (lv_at hl 1 rfl) ?_
    refine va_get (ci := 0) (v := .int (X 5)) (C := RX0) (T := TX0) (N := 12) hx hb ht inX0 hown hK.1 hP 0 rfl rfl 5 (by decide) (ht _ q_115) (fun _ h9 => h9) rfl dX6_isSo_29 ?_
    refine lv_iload_n hx hb dX6_isSo_32 rfl (lv_at hl 2 rfl) ?_
    refine lv_icmp_ne (x := X 5) (y := p1) (tgt := 40) hx hb dX6_isSo_33 (by decide) (fun (c2 : ¬ (X 5 = p1)) => ?_) (fun (c2 : X 5 = p1) => ?_)
    · skip
      refine lv_iconst (v := 0) hx hb dX6_isSo_40 (by decide) ?_
      have er : r_X6_isSo X p0 p1 = 0 := by rw [r_X6_isSo, if_pos c1, if_neg c2]
      exact k_zret kx hK hP hD hS (u := ()) rfl er.symm kb0 dX6_isSo_41
    · skip
      refine lv_iconst (v := 1) hx hb dX6_isSo_36 (by decide) ?_
      refine lv_goto (tgt := 41) hx hb dX6_isSo_37 (by decide) ?_
      have er : r_X6_isSo X p0 p1 = 1 := by rw [r_X6_isSo, if_pos c1, if_pos c2]
      exact k_zret kx hK hP hD hS (u := ()) rfl er.symm kb1 dX6_isSo_41
  · skip
    by_cases c3 : p0 = 6
    · skip
      refine lv_lookup (off := 41) (tgt := 42) hx hb dX6_isSo_1 (by decide +kernel) (by rw [c3]; rfl) (by decide) ?_
      refine lv_aload_n hx hb dX6_isSo_42 rfl (lv_at hl 1 rfl) ?_
      refine va_get (ci := 0) (v := .int (X 6)) (C := RX0) (T := TX0) (N := 12) hx hb ht inX0 hown hK.1 hP 0 rfl rfl 8 (by decide) (ht _ q_121) (fun _ h9 => h9) rfl dX6_isSo_43 ?_
      refine k_calli (kRunS (As := [.int (X 6)]) (rest := []) kx (c_X6_oneIf l G (X 6)) q_469 q_485 q_29 q_468 nX6_oneIf ⟨Nat.le_of_ble_eq_true rfl, Nat.le_of_ble_eq_true rfl⟩ hK hP hD (kCtx_nil _) rfl hl.1 (Nat.le_of_ble_eq_true rfl) dX6_isSo_46 ⟨Nat.zero_le _, Nat.zero_le _⟩) hP hD hS hA (kCtx_nil _) (fun _ => rfl) (fun r4 _ H1 locs1 hw hP1 hD1 hS1 => ?_)
      have hr4 : r_X6_oneIf (X 6) = r4 := (show r4 = r_X6_oneIf (X 6) from hw).symm
      have hP2 : va_P G.1 vwCl ([(h0, .inr (0, cE X h1)), (h1, .inr (2, cT11 X))]) H1 := hP1
      have hD3 : va_D A ([(h0, .inr (0, cE X h1)), (h1, .inr (2, cT11 X))]) := hD1
      refine lv_iload_n hx hb dX6_isSo_49 rfl (lv_at hl 2 rfl) ?_
      refine lv_icmp_ne (x := r4) (y := p1) (tgt := 57) hx hb dX6_isSo_50 (by decide) (fun (c5 : ¬ (r4 = p1)) => ?_) (fun (c5 : r4 = p1) => ?_)
      · skip
        refine lv_iconst (v := 0) hx hb dX6_isSo_57 (by decide) ?_
        have er : r_X6_isSo X p0 p1 = 0 := by rw [r_X6_isSo]; (try rw [hr4]); rw [if_neg c1, if_pos c3, if_neg c5]
        exact k_zret kx hK hP2 hD3 hS1 (u := ()) rfl er.symm kb0 dX6_isSo_58
      · skip
        refine lv_iconst (v := 1) hx hb dX6_isSo_53 (by decide) ?_
        refine lv_goto (tgt := 58) hx hb dX6_isSo_54 (by decide) ?_
        have er : r_X6_isSo X p0 p1 = 1 := by rw [r_X6_isSo]; (try rw [hr4]); rw [if_neg c1, if_pos c3, if_pos c5]
        exact k_zret kx hK hP2 hD3 hS1 (u := ()) rfl er.symm kb1 dX6_isSo_58
    · skip
      refine lv_lookup (off := 58) (tgt := 59) hx hb dX6_isSo_1 (by decide +kernel) (by show Op.lookupswitch.offset [(5, 27), (6, 41)] _ _ = _; rw [lv_osw c1 (by decide), lv_osw c3 (by decide)]; rfl) (by decide) ?_
      refine lv_aload_n hx hb dX6_isSo_59 rfl (lv_at hl 1 rfl) ?_
      refine k_calli (kRunV (As := []) (rest := []) kx (c_X0_pace l G X h0 h1) q_420 q_558 q_32 q_418 q_419 nX0_pace ⟨Nat.le_of_ble_eq_true rfl, Nat.le_of_ble_eq_true rfl⟩ hK hP hD (kCtx_all _) 0 0 rfl rfl rfl rfl hl.1 (Nat.le_of_ble_eq_true rfl) dX6_isSo_60 ⟨Nat.zero_le _, Nat.zero_le _⟩) hP hD hS hA (kCtx_all _) (fun _ => rfl) (fun r6 _ H4 locs4 hw hP4 hD4 hS4 => ?_)
      have hr6 : r_X0_pace X = r6 := (show r6 = r_X0_pace X from hw).symm
      have hP5 : va_P G.1 vwCl ([(h0, .inr (0, cE X h1)), (h1, .inr (2, cT11 X))]) H4 := hP4
      have hD6 : va_D A ([(h0, .inr (0, cE X h1)), (h1, .inr (2, cT11 X))]) := hD4
      refine lv_iload_n hx hb dX6_isSo_63 rfl (lv_at hl 2 rfl) ?_
      refine lv_icmp_ne (x := r6) (y := p1) (tgt := 71) hx hb dX6_isSo_64 (by decide) (fun (c7 : ¬ (r6 = p1)) => ?_) (fun (c7 : r6 = p1) => ?_)
      · skip
        refine lv_iconst (v := 0) hx hb dX6_isSo_71 (by decide) ?_
        have er : r_X6_isSo X p0 p1 = 0 := by rw [r_X6_isSo]; (try rw [hr6]); rw [if_neg c1, if_neg c3, if_neg c7]
        exact k_zret kx hK hP5 hD6 hS4 (u := ()) rfl er.symm kb0 dX6_isSo_72
      · skip
        refine lv_iconst (v := 1) hx hb dX6_isSo_67 (by decide) ?_
        refine lv_goto (tgt := 72) hx hb dX6_isSo_68 (by decide) ?_
        have er : r_X6_isSo X p0 p1 = 1 := by rw [r_X6_isSo]; (try rw [hr6]); rw [if_neg c1, if_neg c3, if_pos c7]
        exact k_zret kx hK hP5 hD6 hS4 (u := ()) rfl er.symm kb1 dX6_isSo_72
theorem kbr_X6_isSo (X : Nat → Int32) (p0 : Int32) (p1 : Int32) : kb (r_X6_isSo X p0 p1) := by
  unfold r_X6_isSo
  repeat' split
  all_goals first | exact kb0 | exact kb1

def r_X6_canBeDone (gT : Nat → Nat → Int32) (p0 : Int32) (p1 : Int32) : Int32 := if p0 = 2 then (if p1 = 0 then 1 else 1) else if p0 = 3 then (if p1 = 0 then 1 else 1) else if p1 = 0 then (if (r_X0_canBePolled (gT 0)) = 0 then 0 else 1) else if (r_X0_canBePolled (gT 1)) = 0 then 0 else 1
def s_X6_canBeDone_gT (gT : Nat → Nat → Int32) (p0 : Int32) (p1 : Int32) : Nat → Nat → Int32 := if p0 = 2 then (if p1 = 0 then (kg (s_X0_turnDemand_X (gT 0)) (gT 1) (gT 2) (gT 3) (gT 4)) else kg (gT 0) (s_X0_turnDemand_X (gT 1)) (gT 2) (gT 3) (gT 4)) else if p0 = 3 then (if p1 = 0 then (kg (gT 0) (gT 1) (s_X4_turnOver_Y (gT 2)) (gT 3) (gT 4)) else kg (gT 0) (gT 1) (gT 2) (s_X4_turnOver_Y (gT 3)) (gT 4)) else if p1 = 0 then (if (r_X0_canBePolled (gT 0)) = 0 then gT else kg (upd (upd (upd (gT 0) 6 1) 8 0) 9 0) (gT 1) (gT 2) (gT 3) (gT 4)) else if (r_X0_canBePolled (gT 1)) = 0 then gT else kg (gT 0) (upd (upd (upd (gT 1) 6 1) 8 0) 9 0) (gT 2) (gT 3) (gT 4)
set_option maxHeartbeats 4000000 in
set_option maxRecDepth 100000 in
theorem c_X6_canBeDone (l : Launch) (G : kG) (cA : Int32) (sd : Int64) (h0 : Nat) (t0 : Nat) (aN : Nat → Nat) (aT : Nat → Nat) (b0 : Nat) (s0 : Nat) (i0 : Nat) (e0 : Nat) (gT : Nat → Nat → Int32) (p0 : Int32) (p1 : Int32) (hT : bW gT) : cG l G yX6_canBeDone cX6_canBeDone 4 (some .boolean) 1 [.ref h0, .int p0, .int p1] ([(h0, .inr (6, cQ (kc cA) t0 (aN 0) (aT 0) b0 s0 i0 e0 sd))] ++ (cW aT gT)) (qI G (fun (r : Int32) (u : (Nat → Nat → Int32)) => r = r_X6_canBeDone gT p0 p1 ∧ u = s_X6_canBeDone_gT gT p0 p1) (fun u => [(h0, .inr (6, cQ (kc cA) t0 (aN 0) (aT 0) b0 s0 i0 e0 sd))] ++ (cW aT u))) := by
  refine kintro (by decide) (Nat.le_of_ble_eq_true rfl) ?_
  intro p e s m args below meth c A ls kx hK hP hD hS hA hl
  have kx : kX p s m args meth c cX6_canBeDone 4 (some .boolean) RX6 := kx
  have hx := kx.1
  have hb := kx.2.1
  have hown := kx.2.2.2.2.1
  have ht := kx.2.2.2.2.2.2
  have hl : lv_has ls 4 [(0, .ref h0), (1, .int p0), (2, .int p1)] := hl
  refine lv_iload_n hx hb dX6_canBeDone_0 rfl (lv_at hl 1 rfl) ?_
  refine lv_iconst (v := 2) hx hb dX6_canBeDone_1 (by decide) ?_
  refine lv_icmp_ne (x := p0) (y := 2) (tgt := 18) hx hb dX6_canBeDone_2 (by decide) (fun (c1 : ¬ (p0 = 2)) => ?_) (fun (c1 : p0 = 2) => ?_)
  · skip
    refine lv_iload_n hx hb dX6_canBeDone_18 rfl (lv_at hl 1 rfl) ?_
    refine lv_iconst (v := 3) hx hb dX6_canBeDone_19 (by decide) ?_
    refine lv_icmp_ne (x := p0) (y := 3) (tgt := 36) hx hb dX6_canBeDone_20 (by decide) (fun (c2 : ¬ (p0 = 3)) => ?_) (fun (c2 : p0 = 3) => ?_)
    · skip
      refine lv_aload_n hx hb dX6_canBeDone_36 rfl (lv_at hl 0 rfl) ?_
      refine va_get (ci := 6) (v := .ref (aT 0)) (C := RX6) (T := TX6) (N := 9) hx hb ht inX6 hown hK.1 hP 0 rfl rfl 2 (by decide) (ht _ q_265) (fun _ h9 => h9) rfl dX6_canBeDone_37 ?_
      refine lv_iload_n hx hb dX6_canBeDone_40 rfl (lv_at hl 2 rfl) ?_
      by_cases c3 : p1 = 0
      · skip
        refine k_top (y := 0) c3 ?_
        refine k_callr (kRunV (As := [.int 0]) (rest := []) kx (c_X5_endOf_0 l G (gT 4) (aT 0) (aT 1) (aT 3) (aT 5) (aT 7)) q_329 q_449 q_31 q_327 q_328 nX5_endOf ⟨Nat.le_of_ble_eq_true rfl, Nat.le_of_ble_eq_true rfl⟩ hK hP hD (kCtx_places _ _ [1] rfl rfl) 0 5 rfl rfl rfl rfl hl.1 (Nat.le_of_ble_eq_true rfl) dX6_canBeDone_41 ⟨Nat.zero_le _, Nat.zero_le _⟩) hP hD hS hA (kCtx_places _ _ [1] rfl rfl) (fun _ => rfl) (fun r4 _ H1 locs1 hw hP1 hD1 hS1 => ?_)
        have hr4 : aT 1 = r4 := (show r4 = aT 1 from hw).symm
        subst hr4
        have hP2 : va_P G.1 vwCl ([(h0, .inr (6, cQ (kc cA) t0 (aN 0) (aT 0) b0 s0 i0 e0 sd))] ++ (cW aT gT)) H1 := hP1
        have hD3 : va_D A ([(h0, .inr (6, cQ (kc cA) t0 (aN 0) (aT 0) b0 s0 i0 e0 sd))] ++ (cW aT gT)) := hD1
        refine lv_astore_n (lv' := [(3, .ref (aT 1)), (0, .ref h0), (1, .int p0), (2, .int p1)]) hx hb dX6_canBeDone_44 rfl hl (by decide) rfl (fun ls4 hl4 => ?_)
        refine lv_aload_n hx hb dX6_canBeDone_45 rfl (lv_at hl4 0 rfl) ?_
        refine k_calli (kRunV (As := []) (rest := []) kx (c_X0_canBePolled l G (gT 0) (aT 1) (aT 2)) q_521 q_518 q_32 q_519 q_520 nX0_canBePolled ⟨Nat.le_of_ble_eq_true rfl, Nat.le_of_ble_eq_true rfl⟩ hK hP2 hD3 (kCtx_places _ _ [2, 3] rfl rfl) 0 0 rfl rfl rfl rfl hl4.1 (Nat.le_of_ble_eq_true rfl) dX6_canBeDone_46 ⟨Nat.zero_le _, Nat.zero_le _⟩) hP2 hD3 hS1 hA (kCtx_places _ _ [2, 3] rfl rfl) (fun _ => rfl) (fun r5 _ H5 locs5 hw hP5 hD5 hS5 => ?_)
        have hr5 : r_X0_canBePolled (gT 0) = r5 := (show r5 = r_X0_canBePolled (gT 0) from hw).symm
        have hP6 : va_P G.1 vwCl ([(h0, .inr (6, cQ (kc cA) t0 (aN 0) (aT 0) b0 s0 i0 e0 sd))] ++ (cW aT gT)) H5 := hP5
        have hD7 : va_D A ([(h0, .inr (6, cQ (kc cA) t0 (aN 0) (aT 0) b0 s0 i0 e0 sd))] ++ (cW aT gT)) := hD5
        refine lv_if_ne (x := r5) (tgt := 54) hx hb dX6_canBeDone_49 (by decide) (fun (c6 : ¬ (r5 = 0)) => ?_) (fun (c6 : r5 = 0) => ?_)
        · skip
          refine lv_aload_n hx hb dX6_canBeDone_54 rfl (lv_at hl4 0 rfl) ?_
          refine k_callv (kRunV (As := []) (rest := []) kx (c_X0_startPoll l G (gT 0) (aT 1) (aT 2)) q_525 q_522 q_32 q_523 q_524 nX0_startPoll ⟨Nat.le_of_ble_eq_true rfl, Nat.le_of_ble_eq_true rfl⟩ hK hP6 hD7 (kCtx_places _ _ [2, 3] rfl rfl) 0 0 rfl rfl rfl rfl hl4.1 (Nat.le_of_ble_eq_true rfl) dX6_canBeDone_55 ⟨Nat.zero_le _, Nat.zero_le _⟩) hP6 hD7 hS5 hA (kCtx_places _ _ [2, 3] rfl rfl) (fun _ => rfl) (fun _ H8 locs8 hw hP8 hD8 hS8 => ?_)
          have hP9 : va_P G.1 vwCl ([(h0, .inr (6, cQ (kc cA) t0 (aN 0) (aT 0) b0 s0 i0 e0 sd))] ++ (cW aT (kg (upd (upd (upd (gT 0) 6 1) 8 0) 9 0) (gT 1) (gT 2) (gT 3) (gT 4)))) H8 := hP8
          have hD10 : va_D A ([(h0, .inr (6, cQ (kc cA) t0 (aN 0) (aT 0) b0 s0 i0 e0 sd))] ++ (cW aT (kg (upd (upd (upd (gT 0) 6 1) 8 0) 9 0) (gT 1) (gT 2) (gT 3) (gT 4)))) := hD8
          refine lv_iconst (v := 1) hx hb dX6_canBeDone_58 (by decide) ?_
          have er : r_X6_canBeDone gT p0 p1 = 1 := by rw [r_X6_canBeDone]; (try rw [hr5]); rw [if_neg c1, if_neg c2, if_pos c3, if_neg c6]
          have e0 : s_X6_canBeDone_gT gT p0 p1 = kg (upd (upd (upd (gT 0) 6 1) 8 0) 9 0) (gT 1) (gT 2) (gT 3) (gT 4) := by rw [s_X6_canBeDone_gT]; (try rw [hr5]); rw [if_neg c1, if_neg c2, if_pos c3, if_neg c6]
          exact k_zret kx hK hP9 hD10 hS8 (u := kg (upd (upd (upd (gT 0) 6 1) 8 0) 9 0) (gT 1) (gT 2) (gT 3) (gT 4)) rfl ⟨er.symm, e0.symm⟩ kb1 dX6_canBeDone_59
        · skip
          refine lv_iconst (v := 0) hx hb dX6_canBeDone_52 (by decide) ?_
          have er : r_X6_canBeDone gT p0 p1 = 0 := by rw [r_X6_canBeDone]; (try rw [hr5]); rw [if_neg c1, if_neg c2, if_pos c3, if_pos c6]
          have e0 : s_X6_canBeDone_gT gT p0 p1 = gT := by rw [s_X6_canBeDone_gT]; (try rw [hr5]); rw [if_neg c1, if_neg c2, if_pos c3, if_pos c6]
          exact k_zret kx hK hP6 hD7 hS5 (u := gT) rfl ⟨er.symm, e0.symm⟩ kb0 dX6_canBeDone_53
      · skip
        refine k_callr (kRunV (As := [.int p1]) (rest := []) kx (c_X5_endOf_n l G (gT 4) (aT 0) (aT 1) (aT 3) (aT 5) (aT 7) p1 c3) q_329 q_449 q_31 q_327 q_328 nX5_endOf ⟨Nat.le_of_ble_eq_true rfl, Nat.le_of_ble_eq_true rfl⟩ hK hP hD (kCtx_places _ _ [1] rfl rfl) 0 5 rfl rfl rfl rfl hl.1 (Nat.le_of_ble_eq_true rfl) dX6_canBeDone_41 ⟨Nat.zero_le _, Nat.zero_le _⟩) hP hD hS hA (kCtx_places _ _ [1] rfl rfl) (fun _ => rfl) (fun r8 _ H11 locs11 hw hP11 hD11 hS11 => ?_)
        have hr8 : aT 3 = r8 := (show r8 = aT 3 from hw).symm
        subst hr8
        have hP12 : va_P G.1 vwCl ([(h0, .inr (6, cQ (kc cA) t0 (aN 0) (aT 0) b0 s0 i0 e0 sd))] ++ (cW aT gT)) H11 := hP11
        have hD13 : va_D A ([(h0, .inr (6, cQ (kc cA) t0 (aN 0) (aT 0) b0 s0 i0 e0 sd))] ++ (cW aT gT)) := hD11
        refine lv_astore_n (lv' := [(3, .ref (aT 3)), (0, .ref h0), (1, .int p0), (2, .int p1)]) hx hb dX6_canBeDone_44 rfl hl (by decide) rfl (fun ls14 hl14 => ?_)
        refine lv_aload_n hx hb dX6_canBeDone_45 rfl (lv_at hl14 0 rfl) ?_
        refine k_calli (kRunV (As := []) (rest := []) kx (c_X0_canBePolled l G (gT 1) (aT 3) (aT 4)) q_521 q_518 q_32 q_519 q_520 nX0_canBePolled ⟨Nat.le_of_ble_eq_true rfl, Nat.le_of_ble_eq_true rfl⟩ hK hP12 hD13 (kCtx_places _ _ [4, 5] rfl rfl) 0 0 rfl rfl rfl rfl hl14.1 (Nat.le_of_ble_eq_true rfl) dX6_canBeDone_46 ⟨Nat.zero_le _, Nat.zero_le _⟩) hP12 hD13 hS11 hA (kCtx_places _ _ [4, 5] rfl rfl) (fun _ => rfl) (fun r9 _ H15 locs15 hw hP15 hD15 hS15 => ?_)
        have hr9 : r_X0_canBePolled (gT 1) = r9 := (show r9 = r_X0_canBePolled (gT 1) from hw).symm
        have hP16 : va_P G.1 vwCl ([(h0, .inr (6, cQ (kc cA) t0 (aN 0) (aT 0) b0 s0 i0 e0 sd))] ++ (cW aT gT)) H15 := hP15
        have hD17 : va_D A ([(h0, .inr (6, cQ (kc cA) t0 (aN 0) (aT 0) b0 s0 i0 e0 sd))] ++ (cW aT gT)) := hD15
        refine lv_if_ne (x := r9) (tgt := 54) hx hb dX6_canBeDone_49 (by decide) (fun (c10 : ¬ (r9 = 0)) => ?_) (fun (c10 : r9 = 0) => ?_)
        · skip
          refine lv_aload_n hx hb dX6_canBeDone_54 rfl (lv_at hl14 0 rfl) ?_
          refine k_callv (kRunV (As := []) (rest := []) kx (c_X0_startPoll l G (gT 1) (aT 3) (aT 4)) q_525 q_522 q_32 q_523 q_524 nX0_startPoll ⟨Nat.le_of_ble_eq_true rfl, Nat.le_of_ble_eq_true rfl⟩ hK hP16 hD17 (kCtx_places _ _ [4, 5] rfl rfl) 0 0 rfl rfl rfl rfl hl14.1 (Nat.le_of_ble_eq_true rfl) dX6_canBeDone_55 ⟨Nat.zero_le _, Nat.zero_le _⟩) hP16 hD17 hS15 hA (kCtx_places _ _ [4, 5] rfl rfl) (fun _ => rfl) (fun _ H18 locs18 hw hP18 hD18 hS18 => ?_)
          have hP19 : va_P G.1 vwCl ([(h0, .inr (6, cQ (kc cA) t0 (aN 0) (aT 0) b0 s0 i0 e0 sd))] ++ (cW aT (kg (gT 0) (upd (upd (upd (gT 1) 6 1) 8 0) 9 0) (gT 2) (gT 3) (gT 4)))) H18 := hP18
          have hD20 : va_D A ([(h0, .inr (6, cQ (kc cA) t0 (aN 0) (aT 0) b0 s0 i0 e0 sd))] ++ (cW aT (kg (gT 0) (upd (upd (upd (gT 1) 6 1) 8 0) 9 0) (gT 2) (gT 3) (gT 4)))) := hD18
          refine lv_iconst (v := 1) hx hb dX6_canBeDone_58 (by decide) ?_
          have er : r_X6_canBeDone gT p0 p1 = 1 := by rw [r_X6_canBeDone]; (try rw [hr9]); rw [if_neg c1, if_neg c2, if_neg c3, if_neg c10]
          have e0 : s_X6_canBeDone_gT gT p0 p1 = kg (gT 0) (upd (upd (upd (gT 1) 6 1) 8 0) 9 0) (gT 2) (gT 3) (gT 4) := by rw [s_X6_canBeDone_gT]; (try rw [hr9]); rw [if_neg c1, if_neg c2, if_neg c3, if_neg c10]
          exact k_zret kx hK hP19 hD20 hS18 (u := kg (gT 0) (upd (upd (upd (gT 1) 6 1) 8 0) 9 0) (gT 2) (gT 3) (gT 4)) rfl ⟨er.symm, e0.symm⟩ kb1 dX6_canBeDone_59
        · skip
          refine lv_iconst (v := 0) hx hb dX6_canBeDone_52 (by decide) ?_
          have er : r_X6_canBeDone gT p0 p1 = 0 := by rw [r_X6_canBeDone]; (try rw [hr9]); rw [if_neg c1, if_neg c2, if_neg c3, if_pos c10]
          have e0 : s_X6_canBeDone_gT gT p0 p1 = gT := by rw [s_X6_canBeDone_gT]; (try rw [hr9]); rw [if_neg c1, if_neg c2, if_neg c3, if_pos c10]
          exact k_zret kx hK hP16 hD17 hS15 (u := gT) rfl ⟨er.symm, e0.symm⟩ kb0 dX6_canBeDone_53
    · skip
      refine lv_aload_n hx hb dX6_canBeDone_23 rfl (lv_at hl 0 rfl) ?_
      refine va_get (ci := 6) (v := .ref (aT 0)) (C := RX6) (T := TX6) (N := 9) hx hb ht inX6 hown hK.1 hP 0 rfl rfl 2 (by decide) (ht _ q_265) (fun _ h9 => h9) rfl dX6_canBeDone_24 ?_
      refine lv_iload_n hx hb dX6_canBeDone_27 rfl (lv_at hl 2 rfl) ?_
      by_cases c12 : p1 = 0
      · skip
        refine k_top (y := 0) c12 ?_
        refine k_callr (kRunV (As := [.int 0]) (rest := []) kx (c_X5_wayOf_0 l G (gT 4) (aT 0) (aT 1) (aT 3) (aT 5) (aT 7)) q_347 q_484 q_31 q_345 q_346 nX5_wayOf ⟨Nat.le_of_ble_eq_true rfl, Nat.le_of_ble_eq_true rfl⟩ hK hP hD (kCtx_places _ _ [1] rfl rfl) 0 5 rfl rfl rfl rfl hl.1 (Nat.le_of_ble_eq_true rfl) dX6_canBeDone_28 ⟨Nat.zero_le _, Nat.zero_le _⟩) hP hD hS hA (kCtx_places _ _ [1] rfl rfl) (fun _ => rfl) (fun r13 _ H21 locs21 hw hP21 hD21 hS21 => ?_)
        have hr13 : aT 5 = r13 := (show r13 = aT 5 from hw).symm
        subst hr13
        have hP22 : va_P G.1 vwCl ([(h0, .inr (6, cQ (kc cA) t0 (aN 0) (aT 0) b0 s0 i0 e0 sd))] ++ (cW aT gT)) H21 := hP21
        have hD23 : va_D A ([(h0, .inr (6, cQ (kc cA) t0 (aN 0) (aT 0) b0 s0 i0 e0 sd))] ++ (cW aT gT)) := hD21
        refine k_callv (kRunV (As := []) (rest := []) kx (c_X4_turnOver l G (gT 2) (aT 5) (aT 6)) q_351 q_513 q_34 q_349 q_350 nX4_turnOver ⟨Nat.le_of_ble_eq_true rfl, Nat.le_of_ble_eq_true rfl⟩ hK hP22 hD23 (kCtx_places _ _ [6, 7] rfl rfl) 0 4 rfl rfl rfl rfl hl.1 (Nat.le_of_ble_eq_true rfl) dX6_canBeDone_31 ⟨Nat.zero_le _, Nat.zero_le _⟩) hP22 hD23 hS21 hA (kCtx_places _ _ [6, 7] rfl rfl) (fun _ => rfl) (fun F15 H24 locs24 hw hP24 hD24 hS24 => ?_)
        have hF15 : s_X4_turnOver_Y (gT 2) = F15 := (show F15 = s_X4_turnOver_Y (gT 2) from hw).symm
        have hP25 : va_P G.1 vwCl ([(h0, .inr (6, cQ (kc cA) t0 (aN 0) (aT 0) b0 s0 i0 e0 sd))] ++ (cW aT (kg (gT 0) (gT 1) F15 (gT 3) (gT 4)))) H24 := hP24
        have hD26 : va_D A ([(h0, .inr (6, cQ (kc cA) t0 (aN 0) (aT 0) b0 s0 i0 e0 sd))] ++ (cW aT (kg (gT 0) (gT 1) F15 (gT 3) (gT 4)))) := hD24
        refine lv_iconst (v := 1) hx hb dX6_canBeDone_34 (by decide) ?_
        have er : r_X6_canBeDone gT p0 p1 = 1 := by rw [r_X6_canBeDone]; (try rw [hF15]); rw [if_neg c1, if_pos c2, if_pos c12]
        have e0 : s_X6_canBeDone_gT gT p0 p1 = kg (gT 0) (gT 1) F15 (gT 3) (gT 4) := by rw [s_X6_canBeDone_gT]; (try rw [hF15]); rw [if_neg c1, if_pos c2, if_pos c12]
        exact k_zret kx hK hP25 hD26 hS24 (u := kg (gT 0) (gT 1) F15 (gT 3) (gT 4)) rfl ⟨er.symm, e0.symm⟩ kb1 dX6_canBeDone_35
      · skip
        refine k_callr (kRunV (As := [.int p1]) (rest := []) kx (c_X5_wayOf_n l G (gT 4) (aT 0) (aT 1) (aT 3) (aT 5) (aT 7) p1 c12) q_347 q_484 q_31 q_345 q_346 nX5_wayOf ⟨Nat.le_of_ble_eq_true rfl, Nat.le_of_ble_eq_true rfl⟩ hK hP hD (kCtx_places _ _ [1] rfl rfl) 0 5 rfl rfl rfl rfl hl.1 (Nat.le_of_ble_eq_true rfl) dX6_canBeDone_28 ⟨Nat.zero_le _, Nat.zero_le _⟩) hP hD hS hA (kCtx_places _ _ [1] rfl rfl) (fun _ => rfl) (fun r16 _ H27 locs27 hw hP27 hD27 hS27 => ?_)
        have hr16 : aT 7 = r16 := (show r16 = aT 7 from hw).symm
        subst hr16
        have hP28 : va_P G.1 vwCl ([(h0, .inr (6, cQ (kc cA) t0 (aN 0) (aT 0) b0 s0 i0 e0 sd))] ++ (cW aT gT)) H27 := hP27
        have hD29 : va_D A ([(h0, .inr (6, cQ (kc cA) t0 (aN 0) (aT 0) b0 s0 i0 e0 sd))] ++ (cW aT gT)) := hD27
        refine k_callv (kRunV (As := []) (rest := []) kx (c_X4_turnOver l G (gT 3) (aT 7) (aT 8)) q_351 q_513 q_34 q_349 q_350 nX4_turnOver ⟨Nat.le_of_ble_eq_true rfl, Nat.le_of_ble_eq_true rfl⟩ hK hP28 hD29 (kCtx_places _ _ [8, 9] rfl rfl) 0 4 rfl rfl rfl rfl hl.1 (Nat.le_of_ble_eq_true rfl) dX6_canBeDone_31 ⟨Nat.zero_le _, Nat.zero_le _⟩) hP28 hD29 hS27 hA (kCtx_places _ _ [8, 9] rfl rfl) (fun _ => rfl) (fun F18 H30 locs30 hw hP30 hD30 hS30 => ?_)
        have hF18 : s_X4_turnOver_Y (gT 3) = F18 := (show F18 = s_X4_turnOver_Y (gT 3) from hw).symm
        have hP31 : va_P G.1 vwCl ([(h0, .inr (6, cQ (kc cA) t0 (aN 0) (aT 0) b0 s0 i0 e0 sd))] ++ (cW aT (kg (gT 0) (gT 1) (gT 2) F18 (gT 4)))) H30 := hP30
        have hD32 : va_D A ([(h0, .inr (6, cQ (kc cA) t0 (aN 0) (aT 0) b0 s0 i0 e0 sd))] ++ (cW aT (kg (gT 0) (gT 1) (gT 2) F18 (gT 4)))) := hD30
        refine lv_iconst (v := 1) hx hb dX6_canBeDone_34 (by decide) ?_
        have er : r_X6_canBeDone gT p0 p1 = 1 := by rw [r_X6_canBeDone]; (try rw [hF18]); rw [if_neg c1, if_pos c2, if_neg c12]
        have e0 : s_X6_canBeDone_gT gT p0 p1 = kg (gT 0) (gT 1) (gT 2) F18 (gT 4) := by rw [s_X6_canBeDone_gT]; (try rw [hF18]); rw [if_neg c1, if_pos c2, if_neg c12]
        exact k_zret kx hK hP31 hD32 hS30 (u := kg (gT 0) (gT 1) (gT 2) F18 (gT 4)) rfl ⟨er.symm, e0.symm⟩ kb1 dX6_canBeDone_35
  · skip
    refine lv_aload_n hx hb dX6_canBeDone_5 rfl (lv_at hl 0 rfl) ?_
    refine va_get (ci := 6) (v := .ref (aT 0)) (C := RX6) (T := TX6) (N := 9) hx hb ht inX6 hown hK.1 hP 0 rfl rfl 2 (by decide) (ht _ q_265) (fun _ h9 => h9) rfl dX6_canBeDone_6 ?_
    refine lv_iload_n hx hb dX6_canBeDone_9 rfl (lv_at hl 2 rfl) ?_
    by_cases c19 : p1 = 0
    · skip
      refine k_top (y := 0) c19 ?_
      refine k_callr (kRunV (As := [.int 0]) (rest := []) kx (c_X5_endOf_0 l G (gT 4) (aT 0) (aT 1) (aT 3) (aT 5) (aT 7)) q_329 q_449 q_31 q_327 q_328 nX5_endOf ⟨Nat.le_of_ble_eq_true rfl, Nat.le_of_ble_eq_true rfl⟩ hK hP hD (kCtx_places _ _ [1] rfl rfl) 0 5 rfl rfl rfl rfl hl.1 (Nat.le_of_ble_eq_true rfl) dX6_canBeDone_10 ⟨Nat.zero_le _, Nat.zero_le _⟩) hP hD hS hA (kCtx_places _ _ [1] rfl rfl) (fun _ => rfl) (fun r20 _ H33 locs33 hw hP33 hD33 hS33 => ?_)
      have hr20 : aT 1 = r20 := (show r20 = aT 1 from hw).symm
      subst hr20
      have hP34 : va_P G.1 vwCl ([(h0, .inr (6, cQ (kc cA) t0 (aN 0) (aT 0) b0 s0 i0 e0 sd))] ++ (cW aT gT)) H33 := hP33
      have hD35 : va_D A ([(h0, .inr (6, cQ (kc cA) t0 (aN 0) (aT 0) b0 s0 i0 e0 sd))] ++ (cW aT gT)) := hD33
      refine k_callv (kRunV (As := []) (rest := []) kx (c_X0_turnDemand l G (gT 0) (aT 1) (aT 2)) q_343 q_508 q_32 q_341 q_342 nX0_turnDemand ⟨Nat.le_of_ble_eq_true rfl, Nat.le_of_ble_eq_true rfl⟩ hK hP34 hD35 (kCtx_places _ _ [2, 3] rfl rfl) 0 0 rfl rfl rfl rfl hl.1 (Nat.le_of_ble_eq_true rfl) dX6_canBeDone_13 ⟨Nat.zero_le _, Nat.zero_le _⟩) hP34 hD35 hS33 hA (kCtx_places _ _ [2, 3] rfl rfl) (fun _ => rfl) (fun F22 H36 locs36 hw hP36 hD36 hS36 => ?_)
      have hF22 : s_X0_turnDemand_X (gT 0) = F22 := (show F22 = s_X0_turnDemand_X (gT 0) from hw).symm
      have hP37 : va_P G.1 vwCl ([(h0, .inr (6, cQ (kc cA) t0 (aN 0) (aT 0) b0 s0 i0 e0 sd))] ++ (cW aT (kg F22 (gT 1) (gT 2) (gT 3) (gT 4)))) H36 := hP36
      have hD38 : va_D A ([(h0, .inr (6, cQ (kc cA) t0 (aN 0) (aT 0) b0 s0 i0 e0 sd))] ++ (cW aT (kg F22 (gT 1) (gT 2) (gT 3) (gT 4)))) := hD36
      refine lv_iconst (v := 1) hx hb dX6_canBeDone_16 (by decide) ?_
      have er : r_X6_canBeDone gT p0 p1 = 1 := by rw [r_X6_canBeDone]; (try rw [hF22]); rw [if_pos c1, if_pos c19]
      have e0 : s_X6_canBeDone_gT gT p0 p1 = kg F22 (gT 1) (gT 2) (gT 3) (gT 4) := by rw [s_X6_canBeDone_gT]; (try rw [hF22]); rw [if_pos c1, if_pos c19]
      exact k_zret kx hK hP37 hD38 hS36 (u := kg F22 (gT 1) (gT 2) (gT 3) (gT 4)) rfl ⟨er.symm, e0.symm⟩ kb1 dX6_canBeDone_17
    · skip
      refine k_callr (kRunV (As := [.int p1]) (rest := []) kx (c_X5_endOf_n l G (gT 4) (aT 0) (aT 1) (aT 3) (aT 5) (aT 7) p1 c19) q_329 q_449 q_31 q_327 q_328 nX5_endOf ⟨Nat.le_of_ble_eq_true rfl, Nat.le_of_ble_eq_true rfl⟩ hK hP hD (kCtx_places _ _ [1] rfl rfl) 0 5 rfl rfl rfl rfl hl.1 (Nat.le_of_ble_eq_true rfl) dX6_canBeDone_10 ⟨Nat.zero_le _, Nat.zero_le _⟩) hP hD hS hA (kCtx_places _ _ [1] rfl rfl) (fun _ => rfl) (fun r23 _ H39 locs39 hw hP39 hD39 hS39 => ?_)
      have hr23 : aT 3 = r23 := (show r23 = aT 3 from hw).symm
      subst hr23
      have hP40 : va_P G.1 vwCl ([(h0, .inr (6, cQ (kc cA) t0 (aN 0) (aT 0) b0 s0 i0 e0 sd))] ++ (cW aT gT)) H39 := hP39
      have hD41 : va_D A ([(h0, .inr (6, cQ (kc cA) t0 (aN 0) (aT 0) b0 s0 i0 e0 sd))] ++ (cW aT gT)) := hD39
      refine k_callv (kRunV (As := []) (rest := []) kx (c_X0_turnDemand l G (gT 1) (aT 3) (aT 4)) q_343 q_508 q_32 q_341 q_342 nX0_turnDemand ⟨Nat.le_of_ble_eq_true rfl, Nat.le_of_ble_eq_true rfl⟩ hK hP40 hD41 (kCtx_places _ _ [4, 5] rfl rfl) 0 0 rfl rfl rfl rfl hl.1 (Nat.le_of_ble_eq_true rfl) dX6_canBeDone_13 ⟨Nat.zero_le _, Nat.zero_le _⟩) hP40 hD41 hS39 hA (kCtx_places _ _ [4, 5] rfl rfl) (fun _ => rfl) (fun F25 H42 locs42 hw hP42 hD42 hS42 => ?_)
      have hF25 : s_X0_turnDemand_X (gT 1) = F25 := (show F25 = s_X0_turnDemand_X (gT 1) from hw).symm
      have hP43 : va_P G.1 vwCl ([(h0, .inr (6, cQ (kc cA) t0 (aN 0) (aT 0) b0 s0 i0 e0 sd))] ++ (cW aT (kg (gT 0) F25 (gT 2) (gT 3) (gT 4)))) H42 := hP42
      have hD44 : va_D A ([(h0, .inr (6, cQ (kc cA) t0 (aN 0) (aT 0) b0 s0 i0 e0 sd))] ++ (cW aT (kg (gT 0) F25 (gT 2) (gT 3) (gT 4)))) := hD42
      refine lv_iconst (v := 1) hx hb dX6_canBeDone_16 (by decide) ?_
      have er : r_X6_canBeDone gT p0 p1 = 1 := by rw [r_X6_canBeDone]; (try rw [hF25]); rw [if_pos c1, if_neg c19]
      have e0 : s_X6_canBeDone_gT gT p0 p1 = kg (gT 0) F25 (gT 2) (gT 3) (gT 4) := by rw [s_X6_canBeDone_gT]; (try rw [hF25]); rw [if_pos c1, if_neg c19]
      exact k_zret kx hK hP43 hD44 hS42 (u := kg (gT 0) F25 (gT 2) (gT 3) (gT 4)) rfl ⟨er.symm, e0.symm⟩ kb1 dX6_canBeDone_17
theorem b_s_X6_canBeDone_gT (gT : Nat → Nat → Int32) (p0 : Int32) (p1 : Int32) (hT : bW gT) : bW (s_X6_canBeDone_gT gT p0 p1) := by
  unfold s_X6_canBeDone_gT
  split
  · skip
    split
    · skip
      exact ⟨(b_s_X0_turnDemand_X (gT 0) hT.1), hT.2.1, hT.2.2.1, hT.2.2.2⟩
    · skip
      exact ⟨hT.1, (b_s_X0_turnDemand_X (gT 1) hT.2.1), hT.2.2.1, hT.2.2.2⟩
  · skip
    split
    · skip
      split
      · skip
        exact ⟨hT.1, hT.2.1, (b_s_X4_turnOver_Y (gT 2) hT.2.2.1), hT.2.2.2⟩
      · skip
        exact ⟨hT.1, hT.2.1, hT.2.2.1, (b_s_X4_turnOver_Y (gT 3) hT.2.2.2)⟩
    · skip
      split
      · skip
        split
        · skip
          exact hT
        · skip
          exact ⟨⟨kb1, hT.1.2.1, hT.1.2.2.1, hT.1.2.2.2⟩, hT.2.1, hT.2.2.1, hT.2.2.2⟩
      · skip
        split
        · skip
          exact hT
        · skip
          exact ⟨hT.1, ⟨kb1, hT.2.1.2.1, hT.2.1.2.2.1, hT.2.1.2.2.2⟩, hT.2.2.1, hT.2.2.2⟩
theorem kbr_X6_canBeDone (gT : Nat → Nat → Int32) (p0 : Int32) (p1 : Int32) : kb (r_X6_canBeDone gT p0 p1) := by
  unfold r_X6_canBeDone
  repeat' split
  all_goals first | exact kb0 | exact kb1

def r_X6_canBe (gT : Nat → Nat → Int32) (p0 : Int32) : Int32 := if p0 / 100 = 1 then (if kRem p0 100 < 1 then 0 else if kRem p0 100 ≤ 30 then 1 else 0) else if p0 / 100 < 2 then (if p0 / 100 < 5 then 0 else if 7 < p0 / 100 then 0 else if (r_X6_isZeroOrOne (kRem (p0 / 10) 10)) = 0 then 0 else if kRem (p0 / 10) 10 = 0 then (if (r_X6_isSo (gT 0) (p0 / 100) (kRem p0 10)) = 0 then 0 else 1) else if (r_X6_isSo (gT 1) (p0 / 100) (kRem p0 10)) = 0 then 0 else 1) else if 4 < p0 / 100 then (if p0 / 100 < 5 then 0 else if 7 < p0 / 100 then 0 else if (r_X6_isZeroOrOne (kRem (p0 / 10) 10)) = 0 then 0 else if kRem (p0 / 10) 10 = 0 then (if (r_X6_isSo (gT 0) (p0 / 100) (kRem p0 10)) = 0 then 0 else 1) else if (r_X6_isSo (gT 1) (p0 / 100) (kRem p0 10)) = 0 then 0 else 1) else if kRem (p0 / 10) 10 = 0 then (if (r_X6_isZeroOrOne (kRem p0 10)) = 0 then 0 else if (r_X6_canBeDone gT (p0 / 100) (kRem p0 10)) = 0 then 0 else 1) else 0
def s_X6_canBe_gT (gT : Nat → Nat → Int32) (p0 : Int32) : Nat → Nat → Int32 := if p0 / 100 = 1 then (if kRem p0 100 < 1 then gT else if kRem p0 100 ≤ 30 then (s_X5_run_g gT (kRem p0 100)) else gT) else if p0 / 100 < 2 then (if p0 / 100 < 5 then gT else if 7 < p0 / 100 then gT else if (r_X6_isZeroOrOne (kRem (p0 / 10) 10)) = 0 then gT else if kRem (p0 / 10) 10 = 0 then (if (r_X6_isSo (gT 0) (p0 / 100) (kRem p0 10)) = 0 then gT else gT) else if (r_X6_isSo (gT 1) (p0 / 100) (kRem p0 10)) = 0 then gT else gT) else if 4 < p0 / 100 then (if p0 / 100 < 5 then gT else if 7 < p0 / 100 then gT else if (r_X6_isZeroOrOne (kRem (p0 / 10) 10)) = 0 then gT else if kRem (p0 / 10) 10 = 0 then (if (r_X6_isSo (gT 0) (p0 / 100) (kRem p0 10)) = 0 then gT else gT) else if (r_X6_isSo (gT 1) (p0 / 100) (kRem p0 10)) = 0 then gT else gT) else if kRem (p0 / 10) 10 = 0 then (if (r_X6_isZeroOrOne (kRem p0 10)) = 0 then gT else if (r_X6_canBeDone gT (p0 / 100) (kRem p0 10)) = 0 then (s_X6_canBeDone_gT gT (p0 / 100) (kRem p0 10)) else s_X6_canBeDone_gT gT (p0 / 100) (kRem p0 10)) else gT
set_option maxHeartbeats 4000000 in
set_option maxRecDepth 100000 in
theorem c_X6_canBe (l : Launch) (G : kG) (cA : Int32) (sd : Int64) (h0 : Nat) (t0 : Nat) (aN : Nat → Nat) (aT : Nat → Nat) (b0 : Nat) (s0 : Nat) (i0 : Nat) (e0 : Nat) (gT : Nat → Nat → Int32) (p0 : Int32) (hT : bW gT) : cG l G yX6_canBe cX6_canBe 6 (some .boolean) 5 [.ref h0, .int p0] ([(h0, .inr (6, cQ (kc cA) t0 (aN 0) (aT 0) b0 s0 i0 e0 sd))] ++ (cW aT gT)) (qI G (fun (r : Int32) (u : (Nat → Nat → Int32)) => r = r_X6_canBe gT p0 ∧ u = s_X6_canBe_gT gT p0) (fun u => [(h0, .inr (6, cQ (kc cA) t0 (aN 0) (aT 0) b0 s0 i0 e0 sd))] ++ (cW aT u))) := by
  refine kintro (by decide) (Nat.le_of_ble_eq_true rfl) ?_
  intro p e s m args below meth c A ls kx hK hP hD hS hA hl
  have kx : kX p s m args meth c cX6_canBe 6 (some .boolean) RX6 := kx
  have hx := kx.1
  have hb := kx.2.1
  have hown := kx.2.2.2.2.1
  have ht := kx.2.2.2.2.2.2
  have hl : lv_has ls 6 [(0, .ref h0), (1, .int p0)] := hl
  refine lv_iload_n hx hb dX6_canBe_0 rfl (lv_at hl 1 rfl) ?_
  refine lv_bipush (v := 100) hx hb dX6_canBe_1 (by decide) ?_
  refine lv_idiv hx hb dX6_canBe_3 (by decide) ?_
  refine lv_istore_n (lv' := [(2, .int (p0 / 100)), (0, .ref h0), (1, .int p0)]) hx hb dX6_canBe_4 rfl hl (by decide) rfl (fun ls1 hl1 => ?_)
  refine lv_iload_n hx hb dX6_canBe_5 rfl (lv_at hl1 2 rfl) ?_
  refine lv_bipush (v := 10) hx hb dX6_canBe_6 (by decide) ?_
  refine lv_idiv hx hb dX6_canBe_8 (by decide) ?_
  refine lv_bipush (v := 10) hx hb dX6_canBe_9 (by decide) ?_
  refine lv_irem hx hb dX6_canBe_11 (by decide) ?_
  refine k_top (y := kRem (p0 / 10) 10) rfl ?_
  refine lv_istore_n (lv' := [(3, .int (kRem (p0 / 10) 10)), (2, .int (p0 / 100)), (0, .ref h0), (1, .int p0)]) hx hb dX6_canBe_12 rfl hl1 (by decide) rfl (fun ls2 hl2 => ?_)
  refine lv_iload_n hx hb dX6_canBe_13 rfl (lv_at hl2 3 rfl) ?_
  refine lv_bipush (v := 10) hx hb dX6_canBe_14 (by decide) ?_
  refine lv_irem hx hb dX6_canBe_16 (by decide) ?_
  refine k_top (y := kRem p0 10) rfl ?_
  refine lv_istore (lv' := [(4, .int (kRem p0 10)), (3, .int (kRem (p0 / 10) 10)), (2, .int (p0 / 100)), (0, .ref h0), (1, .int p0)]) hx hb dX6_canBe_17 hl2 (by decide) rfl (fun ls3 hl3 => ?_)
  refine lv_iload_n hx hb dX6_canBe_19 rfl (lv_at hl3 2 rfl) ?_
  refine lv_iconst (v := 1) hx hb dX6_canBe_20 (by decide) ?_
  refine lv_icmp_ne (x := p0 / 100) (y := 1) (tgt := 56) hx hb dX6_canBe_21 (by decide) (fun (c1 : ¬ (p0 / 100 = 1)) => ?_) (fun (c1 : p0 / 100 = 1) => ?_)
  · skip
    refine lv_iload_n hx hb dX6_canBe_56 rfl (lv_at hl3 2 rfl) ?_
    refine lv_iconst (v := 2) hx hb dX6_canBe_57 (by decide) ?_
    refine lv_icmp_lt (x := p0 / 100) (y := 2) (tgt := 94) hx hb dX6_canBe_58 (by decide) (fun (c2 : p0 / 100 < 2) => ?_) (fun (c2 : ¬ (p0 / 100 < 2)) => ?_)
    · skip
      refine lv_iload_n hx hb dX6_canBe_94 rfl (lv_at hl3 2 rfl) ?_
      refine lv_iconst (v := 5) hx hb dX6_canBe_95 (by decide) ?_
      refine lv_icmp_lt (x := p0 / 100) (y := 5) (tgt := 135) hx hb dX6_canBe_96 (by decide) (fun (c3 : p0 / 100 < 5) => ?_) (fun (c3 : ¬ (p0 / 100 < 5)) => ?_)
      · skip
        refine lv_iconst (v := 0) hx hb dX6_canBe_135 (by decide) ?_
        have er : r_X6_canBe gT p0 = 0 := by rw [r_X6_canBe, if_neg c1, if_pos c2, if_pos c3]
        have e0 : s_X6_canBe_gT gT p0 = gT := by rw [s_X6_canBe_gT, if_neg c1, if_pos c2, if_pos c3]
        exact k_zret kx hK hP hD hS (u := gT) rfl ⟨er.symm, e0.symm⟩ kb0 dX6_canBe_136
      · skip
        refine lv_iload_n hx hb dX6_canBe_99 rfl (lv_at hl3 2 rfl) ?_
        refine lv_bipush (v := 7) hx hb dX6_canBe_100 (by decide) ?_
        refine lv_icmp_gt (x := p0 / 100) (y := 7) (tgt := 135) hx hb dX6_canBe_102 (by decide) (fun (c4 : 7 < p0 / 100) => ?_) (fun (c4 : ¬ (7 < p0 / 100)) => ?_)
        · skip
          refine lv_iconst (v := 0) hx hb dX6_canBe_135 (by decide) ?_
          have er : r_X6_canBe gT p0 = 0 := by rw [r_X6_canBe, if_neg c1, if_pos c2, if_neg c3, if_pos c4]
          have e0 : s_X6_canBe_gT gT p0 = gT := by rw [s_X6_canBe_gT, if_neg c1, if_pos c2, if_neg c3, if_pos c4]
          exact k_zret kx hK hP hD hS (u := gT) rfl ⟨er.symm, e0.symm⟩ kb0 dX6_canBe_136
        · skip
          refine lv_iload_n hx hb dX6_canBe_105 rfl (lv_at hl3 1 rfl) ?_
          refine k_calli (kRunS (As := [.int (kRem (p0 / 10) 10)]) (rest := []) kx (c_X6_isZeroOrOne l G (kRem (p0 / 10) 10)) q_431 q_429 q_29 q_430 nX6_isZeroOrOne ⟨Nat.le_of_ble_eq_true rfl, Nat.le_of_ble_eq_true rfl⟩ hK hP hD (kCtx_nil _) rfl hl3.1 (Nat.le_of_ble_eq_true rfl) dX6_canBe_106 ⟨Nat.zero_le _, Nat.zero_le _⟩) hP hD hS hA (kCtx_nil _) (fun _ => rfl) (fun r5 _ H4 locs4 hw hP4 hD4 hS4 => ?_)
          have hr5 : r_X6_isZeroOrOne (kRem (p0 / 10) 10) = r5 := (show r5 = r_X6_isZeroOrOne (kRem (p0 / 10) 10) from hw).symm
          have hP5 : va_P G.1 vwCl ([(h0, .inr (6, cQ (kc cA) t0 (aN 0) (aT 0) b0 s0 i0 e0 sd))] ++ (cW aT gT)) H4 := hP4
          have hD6 : va_D A ([(h0, .inr (6, cQ (kc cA) t0 (aN 0) (aT 0) b0 s0 i0 e0 sd))] ++ (cW aT gT)) := hD4
          refine lv_if_eq (x := r5) (tgt := 133) hx hb dX6_canBe_109 (by decide) (fun (c6 : r5 = 0) => ?_) (fun (c6 : ¬ (r5 = 0)) => ?_)
          · skip
            refine lv_iconst (v := 0) hx hb dX6_canBe_133 (by decide) ?_
            have er : r_X6_canBe gT p0 = 0 := by rw [r_X6_canBe]; (try rw [hr5]); rw [if_neg c1, if_pos c2, if_neg c3, if_neg c4, if_pos c6]
            have e0 : s_X6_canBe_gT gT p0 = gT := by rw [s_X6_canBe_gT]; (try rw [hr5]); rw [if_neg c1, if_pos c2, if_neg c3, if_neg c4, if_pos c6]
            exact k_zret kx hK hP5 hD6 hS4 (u := gT) rfl ⟨er.symm, e0.symm⟩ kb0 dX6_canBe_134
          · skip
            refine lv_iload_n hx hb dX6_canBe_112 rfl (lv_at hl3 2 rfl) ?_
            refine lv_aload_n hx hb dX6_canBe_113 rfl (lv_at hl3 3 rfl) ?_
            refine va_get (ci := 6) (v := .ref (aT 0)) (C := RX6) (T := TX6) (N := 9) hx hb ht inX6 hown hK.1 hP5 0 rfl rfl 2 (by decide) (ht _ q_265) (fun _ h9 => h9) rfl dX6_canBe_114 ?_
            refine lv_iload_n hx hb dX6_canBe_117 rfl (lv_at hl3 1 rfl) ?_
            by_cases c7 : kRem (p0 / 10) 10 = 0
            · skip
              refine k_top (y := 0) c7 ?_
              refine k_callr (kRunV (As := [.int 0]) (rest := [.int (p0 / 100)]) kx (c_X5_endOf_0 l G (gT 4) (aT 0) (aT 1) (aT 3) (aT 5) (aT 7)) q_329 q_449 q_31 q_327 q_328 nX5_endOf ⟨Nat.le_of_ble_eq_true rfl, Nat.le_of_ble_eq_true rfl⟩ hK hP5 hD6 (kCtx_places _ _ [1] rfl rfl) 0 5 rfl rfl rfl rfl hl3.1 (Nat.le_of_ble_eq_true rfl) dX6_canBe_118 ⟨Nat.zero_le _, Nat.zero_le _⟩) hP5 hD6 hS4 hA (kCtx_places _ _ [1] rfl rfl) (fun _ => rfl) (fun r8 _ H7 locs7 hw hP7 hD7 hS7 => ?_)
              have hr8 : aT 1 = r8 := (show r8 = aT 1 from hw).symm
              subst hr8
              have hP8 : va_P G.1 vwCl ([(h0, .inr (6, cQ (kc cA) t0 (aN 0) (aT 0) b0 s0 i0 e0 sd))] ++ (cW aT gT)) H7 := hP7
              have hD9 : va_D A ([(h0, .inr (6, cQ (kc cA) t0 (aN 0) (aT 0) b0 s0 i0 e0 sd))] ++ (cW aT gT)) := hD7
              refine lv_iload hx hb dX6_canBe_121 (lv_at hl3 0 rfl) ?_
              refine k_calli (kRunS (As := [.int (p0 / 100), .ref (aT 1), .int (kRem p0 10)]) (rest := []) kx (c_X6_isSo l G (gT 0) (aT 1) (aT 2) (p0 / 100) (kRem p0 10)) q_557 q_555 q_29 q_556 nX6_isSo ⟨Nat.le_of_ble_eq_true rfl, Nat.le_of_ble_eq_true rfl⟩ hK hP8 hD9 (kCtx_places _ _ [2, 3] rfl rfl) rfl hl3.1 (Nat.le_of_ble_eq_true rfl) dX6_canBe_123 ⟨Nat.zero_le _, Nat.zero_le _⟩) hP8 hD9 hS7 hA (kCtx_places _ _ [2, 3] rfl rfl) (fun _ => rfl) (fun r9 _ H10 locs10 hw hP10 hD10 hS10 => ?_)
              have hr9 : r_X6_isSo (gT 0) (p0 / 100) (kRem p0 10) = r9 := (show r9 = r_X6_isSo (gT 0) (p0 / 100) (kRem p0 10) from hw).symm
              have hP11 : va_P G.1 vwCl ([(h0, .inr (6, cQ (kc cA) t0 (aN 0) (aT 0) b0 s0 i0 e0 sd))] ++ (cW aT gT)) H10 := hP10
              have hD12 : va_D A ([(h0, .inr (6, cQ (kc cA) t0 (aN 0) (aT 0) b0 s0 i0 e0 sd))] ++ (cW aT gT)) := hD10
              refine lv_if_eq (x := r9) (tgt := 133) hx hb dX6_canBe_126 (by decide) (fun (c10 : r9 = 0) => ?_) (fun (c10 : ¬ (r9 = 0)) => ?_)
              · skip
                refine lv_iconst (v := 0) hx hb dX6_canBe_133 (by decide) ?_
                have er : r_X6_canBe gT p0 = 0 := by rw [r_X6_canBe]; (try rw [hr5]); (try rw [hr9]); rw [if_neg c1, if_pos c2, if_neg c3, if_neg c4, if_neg c6, if_pos c7, if_pos c10]
                have e0 : s_X6_canBe_gT gT p0 = gT := by rw [s_X6_canBe_gT]; (try rw [hr5]); (try rw [hr9]); rw [if_neg c1, if_pos c2, if_neg c3, if_neg c4, if_neg c6, if_pos c7, if_pos c10]
                exact k_zret kx hK hP11 hD12 hS10 (u := gT) rfl ⟨er.symm, e0.symm⟩ kb0 dX6_canBe_134
              · skip
                refine lv_iconst (v := 1) hx hb dX6_canBe_129 (by decide) ?_
                refine lv_goto (tgt := 134) hx hb dX6_canBe_130 (by decide) ?_
                have er : r_X6_canBe gT p0 = 1 := by rw [r_X6_canBe]; (try rw [hr5]); (try rw [hr9]); rw [if_neg c1, if_pos c2, if_neg c3, if_neg c4, if_neg c6, if_pos c7, if_neg c10]
                have e0 : s_X6_canBe_gT gT p0 = gT := by rw [s_X6_canBe_gT]; (try rw [hr5]); (try rw [hr9]); rw [if_neg c1, if_pos c2, if_neg c3, if_neg c4, if_neg c6, if_pos c7, if_neg c10]
                exact k_zret kx hK hP11 hD12 hS10 (u := gT) rfl ⟨er.symm, e0.symm⟩ kb1 dX6_canBe_134
            · skip
              refine k_callr (kRunV (As := [.int (kRem (p0 / 10) 10)]) (rest := [.int (p0 / 100)]) kx (c_X5_endOf_n l G (gT 4) (aT 0) (aT 1) (aT 3) (aT 5) (aT 7) (kRem (p0 / 10) 10) c7) q_329 q_449 q_31 q_327 q_328 nX5_endOf ⟨Nat.le_of_ble_eq_true rfl, Nat.le_of_ble_eq_true rfl⟩ hK hP5 hD6 (kCtx_places _ _ [1] rfl rfl) 0 5 rfl rfl rfl rfl hl3.1 (Nat.le_of_ble_eq_true rfl) dX6_canBe_118 ⟨Nat.zero_le _, Nat.zero_le _⟩) hP5 hD6 hS4 hA (kCtx_places _ _ [1] rfl rfl) (fun _ => rfl) (fun r11 _ H13 locs13 hw hP13 hD13 hS13 => ?_)
              have hr11 : aT 3 = r11 := (show r11 = aT 3 from hw).symm
              subst hr11
              have hP14 : va_P G.1 vwCl ([(h0, .inr (6, cQ (kc cA) t0 (aN 0) (aT 0) b0 s0 i0 e0 sd))] ++ (cW aT gT)) H13 := hP13
              have hD15 : va_D A ([(h0, .inr (6, cQ (kc cA) t0 (aN 0) (aT 0) b0 s0 i0 e0 sd))] ++ (cW aT gT)) := hD13
              refine lv_iload hx hb dX6_canBe_121 (lv_at hl3 0 rfl) ?_
              refine k_calli (kRunS (As := [.int (p0 / 100), .ref (aT 3), .int (kRem p0 10)]) (rest := []) kx (c_X6_isSo l G (gT 1) (aT 3) (aT 4) (p0 / 100) (kRem p0 10)) q_557 q_555 q_29 q_556 nX6_isSo ⟨Nat.le_of_ble_eq_true rfl, Nat.le_of_ble_eq_true rfl⟩ hK hP14 hD15 (kCtx_places _ _ [4, 5] rfl rfl) rfl hl3.1 (Nat.le_of_ble_eq_true rfl) dX6_canBe_123 ⟨Nat.zero_le _, Nat.zero_le _⟩) hP14 hD15 hS13 hA (kCtx_places _ _ [4, 5] rfl rfl) (fun _ => rfl) (fun r12 _ H16 locs16 hw hP16 hD16 hS16 => ?_)
              have hr12 : r_X6_isSo (gT 1) (p0 / 100) (kRem p0 10) = r12 := (show r12 = r_X6_isSo (gT 1) (p0 / 100) (kRem p0 10) from hw).symm
              have hP17 : va_P G.1 vwCl ([(h0, .inr (6, cQ (kc cA) t0 (aN 0) (aT 0) b0 s0 i0 e0 sd))] ++ (cW aT gT)) H16 := hP16
              have hD18 : va_D A ([(h0, .inr (6, cQ (kc cA) t0 (aN 0) (aT 0) b0 s0 i0 e0 sd))] ++ (cW aT gT)) := hD16
              refine lv_if_eq (x := r12) (tgt := 133) hx hb dX6_canBe_126 (by decide) (fun (c13 : r12 = 0) => ?_) (fun (c13 : ¬ (r12 = 0)) => ?_)
              · skip
                refine lv_iconst (v := 0) hx hb dX6_canBe_133 (by decide) ?_
                have er : r_X6_canBe gT p0 = 0 := by rw [r_X6_canBe]; (try rw [hr5]); (try rw [hr12]); rw [if_neg c1, if_pos c2, if_neg c3, if_neg c4, if_neg c6, if_neg c7, if_pos c13]
                have e0 : s_X6_canBe_gT gT p0 = gT := by rw [s_X6_canBe_gT]; (try rw [hr5]); (try rw [hr12]); rw [if_neg c1, if_pos c2, if_neg c3, if_neg c4, if_neg c6, if_neg c7, if_pos c13]
                exact k_zret kx hK hP17 hD18 hS16 (u := gT) rfl ⟨er.symm, e0.symm⟩ kb0 dX6_canBe_134
              · skip
                refine lv_iconst (v := 1) hx hb dX6_canBe_129 (by decide) ?_
                refine lv_goto (tgt := 134) hx hb dX6_canBe_130 (by decide) ?_
                have er : r_X6_canBe gT p0 = 1 := by rw [r_X6_canBe]; (try rw [hr5]); (try rw [hr12]); rw [if_neg c1, if_pos c2, if_neg c3, if_neg c4, if_neg c6, if_neg c7, if_neg c13]
                have e0 : s_X6_canBe_gT gT p0 = gT := by rw [s_X6_canBe_gT]; (try rw [hr5]); (try rw [hr12]); rw [if_neg c1, if_pos c2, if_neg c3, if_neg c4, if_neg c6, if_neg c7, if_neg c13]
                exact k_zret kx hK hP17 hD18 hS16 (u := gT) rfl ⟨er.symm, e0.symm⟩ kb1 dX6_canBe_134
    · skip
      refine lv_iload_n hx hb dX6_canBe_61 rfl (lv_at hl3 2 rfl) ?_
      refine lv_iconst (v := 4) hx hb dX6_canBe_62 (by decide) ?_
      refine lv_icmp_gt (x := p0 / 100) (y := 4) (tgt := 94) hx hb dX6_canBe_63 (by decide) (fun (c14 : 4 < p0 / 100) => ?_) (fun (c14 : ¬ (4 < p0 / 100)) => ?_)
      · skip
        refine lv_iload_n hx hb dX6_canBe_94 rfl (lv_at hl3 2 rfl) ?_
        refine lv_iconst (v := 5) hx hb dX6_canBe_95 (by decide) ?_
        refine lv_icmp_lt (x := p0 / 100) (y := 5) (tgt := 135) hx hb dX6_canBe_96 (by decide) (fun (c15 : p0 / 100 < 5) => ?_) (fun (c15 : ¬ (p0 / 100 < 5)) => ?_)
        · skip
          refine lv_iconst (v := 0) hx hb dX6_canBe_135 (by decide) ?_
          have er : r_X6_canBe gT p0 = 0 := by rw [r_X6_canBe, if_neg c1, if_neg c2, if_pos c14, if_pos c15]
          have e0 : s_X6_canBe_gT gT p0 = gT := by rw [s_X6_canBe_gT, if_neg c1, if_neg c2, if_pos c14, if_pos c15]
          exact k_zret kx hK hP hD hS (u := gT) rfl ⟨er.symm, e0.symm⟩ kb0 dX6_canBe_136
        · skip
          refine lv_iload_n hx hb dX6_canBe_99 rfl (lv_at hl3 2 rfl) ?_
          refine lv_bipush (v := 7) hx hb dX6_canBe_100 (by decide) ?_
          refine lv_icmp_gt (x := p0 / 100) (y := 7) (tgt := 135) hx hb dX6_canBe_102 (by decide) (fun (c16 : 7 < p0 / 100) => ?_) (fun (c16 : ¬ (7 < p0 / 100)) => ?_)
          · skip
            refine lv_iconst (v := 0) hx hb dX6_canBe_135 (by decide) ?_
            have er : r_X6_canBe gT p0 = 0 := by rw [r_X6_canBe, if_neg c1, if_neg c2, if_pos c14, if_neg c15, if_pos c16]
            have e0 : s_X6_canBe_gT gT p0 = gT := by rw [s_X6_canBe_gT, if_neg c1, if_neg c2, if_pos c14, if_neg c15, if_pos c16]
            exact k_zret kx hK hP hD hS (u := gT) rfl ⟨er.symm, e0.symm⟩ kb0 dX6_canBe_136
          · skip
            refine lv_iload_n hx hb dX6_canBe_105 rfl (lv_at hl3 1 rfl) ?_
            refine k_calli (kRunS (As := [.int (kRem (p0 / 10) 10)]) (rest := []) kx (c_X6_isZeroOrOne l G (kRem (p0 / 10) 10)) q_431 q_429 q_29 q_430 nX6_isZeroOrOne ⟨Nat.le_of_ble_eq_true rfl, Nat.le_of_ble_eq_true rfl⟩ hK hP hD (kCtx_nil _) rfl hl3.1 (Nat.le_of_ble_eq_true rfl) dX6_canBe_106 ⟨Nat.zero_le _, Nat.zero_le _⟩) hP hD hS hA (kCtx_nil _) (fun _ => rfl) (fun r17 _ H19 locs19 hw hP19 hD19 hS19 => ?_)
            have hr17 : r_X6_isZeroOrOne (kRem (p0 / 10) 10) = r17 := (show r17 = r_X6_isZeroOrOne (kRem (p0 / 10) 10) from hw).symm
            have hP20 : va_P G.1 vwCl ([(h0, .inr (6, cQ (kc cA) t0 (aN 0) (aT 0) b0 s0 i0 e0 sd))] ++ (cW aT gT)) H19 := hP19
            have hD21 : va_D A ([(h0, .inr (6, cQ (kc cA) t0 (aN 0) (aT 0) b0 s0 i0 e0 sd))] ++ (cW aT gT)) := hD19
            refine lv_if_eq (x := r17) (tgt := 133) hx hb dX6_canBe_109 (by decide) (fun (c18 : r17 = 0) => ?_) (fun (c18 : ¬ (r17 = 0)) => ?_)
            · skip
              refine lv_iconst (v := 0) hx hb dX6_canBe_133 (by decide) ?_
              have er : r_X6_canBe gT p0 = 0 := by rw [r_X6_canBe]; (try rw [hr17]); rw [if_neg c1, if_neg c2, if_pos c14, if_neg c15, if_neg c16, if_pos c18]
              have e0 : s_X6_canBe_gT gT p0 = gT := by rw [s_X6_canBe_gT]; (try rw [hr17]); rw [if_neg c1, if_neg c2, if_pos c14, if_neg c15, if_neg c16, if_pos c18]
              exact k_zret kx hK hP20 hD21 hS19 (u := gT) rfl ⟨er.symm, e0.symm⟩ kb0 dX6_canBe_134
            · skip
              refine lv_iload_n hx hb dX6_canBe_112 rfl (lv_at hl3 2 rfl) ?_
              refine lv_aload_n hx hb dX6_canBe_113 rfl (lv_at hl3 3 rfl) ?_
              refine va_get (ci := 6) (v := .ref (aT 0)) (C := RX6) (T := TX6) (N := 9) hx hb ht inX6 hown hK.1 hP20 0 rfl rfl 2 (by decide) (ht _ q_265) (fun _ h9 => h9) rfl dX6_canBe_114 ?_
              refine lv_iload_n hx hb dX6_canBe_117 rfl (lv_at hl3 1 rfl) ?_
              by_cases c19 : kRem (p0 / 10) 10 = 0
              · skip
                refine k_top (y := 0) c19 ?_
                refine k_callr (kRunV (As := [.int 0]) (rest := [.int (p0 / 100)]) kx (c_X5_endOf_0 l G (gT 4) (aT 0) (aT 1) (aT 3) (aT 5) (aT 7)) q_329 q_449 q_31 q_327 q_328 nX5_endOf ⟨Nat.le_of_ble_eq_true rfl, Nat.le_of_ble_eq_true rfl⟩ hK hP20 hD21 (kCtx_places _ _ [1] rfl rfl) 0 5 rfl rfl rfl rfl hl3.1 (Nat.le_of_ble_eq_true rfl) dX6_canBe_118 ⟨Nat.zero_le _, Nat.zero_le _⟩) hP20 hD21 hS19 hA (kCtx_places _ _ [1] rfl rfl) (fun _ => rfl) (fun r20 _ H22 locs22 hw hP22 hD22 hS22 => ?_)
                have hr20 : aT 1 = r20 := (show r20 = aT 1 from hw).symm
                subst hr20
                have hP23 : va_P G.1 vwCl ([(h0, .inr (6, cQ (kc cA) t0 (aN 0) (aT 0) b0 s0 i0 e0 sd))] ++ (cW aT gT)) H22 := hP22
                have hD24 : va_D A ([(h0, .inr (6, cQ (kc cA) t0 (aN 0) (aT 0) b0 s0 i0 e0 sd))] ++ (cW aT gT)) := hD22
                refine lv_iload hx hb dX6_canBe_121 (lv_at hl3 0 rfl) ?_
                refine k_calli (kRunS (As := [.int (p0 / 100), .ref (aT 1), .int (kRem p0 10)]) (rest := []) kx (c_X6_isSo l G (gT 0) (aT 1) (aT 2) (p0 / 100) (kRem p0 10)) q_557 q_555 q_29 q_556 nX6_isSo ⟨Nat.le_of_ble_eq_true rfl, Nat.le_of_ble_eq_true rfl⟩ hK hP23 hD24 (kCtx_places _ _ [2, 3] rfl rfl) rfl hl3.1 (Nat.le_of_ble_eq_true rfl) dX6_canBe_123 ⟨Nat.zero_le _, Nat.zero_le _⟩) hP23 hD24 hS22 hA (kCtx_places _ _ [2, 3] rfl rfl) (fun _ => rfl) (fun r21 _ H25 locs25 hw hP25 hD25 hS25 => ?_)
                have hr21 : r_X6_isSo (gT 0) (p0 / 100) (kRem p0 10) = r21 := (show r21 = r_X6_isSo (gT 0) (p0 / 100) (kRem p0 10) from hw).symm
                have hP26 : va_P G.1 vwCl ([(h0, .inr (6, cQ (kc cA) t0 (aN 0) (aT 0) b0 s0 i0 e0 sd))] ++ (cW aT gT)) H25 := hP25
                have hD27 : va_D A ([(h0, .inr (6, cQ (kc cA) t0 (aN 0) (aT 0) b0 s0 i0 e0 sd))] ++ (cW aT gT)) := hD25
                refine lv_if_eq (x := r21) (tgt := 133) hx hb dX6_canBe_126 (by decide) (fun (c22 : r21 = 0) => ?_) (fun (c22 : ¬ (r21 = 0)) => ?_)
                · skip
                  refine lv_iconst (v := 0) hx hb dX6_canBe_133 (by decide) ?_
                  have er : r_X6_canBe gT p0 = 0 := by rw [r_X6_canBe]; (try rw [hr17]); (try rw [hr21]); rw [if_neg c1, if_neg c2, if_pos c14, if_neg c15, if_neg c16, if_neg c18, if_pos c19, if_pos c22]
                  have e0 : s_X6_canBe_gT gT p0 = gT := by rw [s_X6_canBe_gT]; (try rw [hr17]); (try rw [hr21]); rw [if_neg c1, if_neg c2, if_pos c14, if_neg c15, if_neg c16, if_neg c18, if_pos c19, if_pos c22]
                  exact k_zret kx hK hP26 hD27 hS25 (u := gT) rfl ⟨er.symm, e0.symm⟩ kb0 dX6_canBe_134
                · skip
                  refine lv_iconst (v := 1) hx hb dX6_canBe_129 (by decide) ?_
                  refine lv_goto (tgt := 134) hx hb dX6_canBe_130 (by decide) ?_
                  have er : r_X6_canBe gT p0 = 1 := by rw [r_X6_canBe]; (try rw [hr17]); (try rw [hr21]); rw [if_neg c1, if_neg c2, if_pos c14, if_neg c15, if_neg c16, if_neg c18, if_pos c19, if_neg c22]
                  have e0 : s_X6_canBe_gT gT p0 = gT := by rw [s_X6_canBe_gT]; (try rw [hr17]); (try rw [hr21]); rw [if_neg c1, if_neg c2, if_pos c14, if_neg c15, if_neg c16, if_neg c18, if_pos c19, if_neg c22]
                  exact k_zret kx hK hP26 hD27 hS25 (u := gT) rfl ⟨er.symm, e0.symm⟩ kb1 dX6_canBe_134
              · skip
                refine k_callr (kRunV (As := [.int (kRem (p0 / 10) 10)]) (rest := [.int (p0 / 100)]) kx (c_X5_endOf_n l G (gT 4) (aT 0) (aT 1) (aT 3) (aT 5) (aT 7) (kRem (p0 / 10) 10) c19) q_329 q_449 q_31 q_327 q_328 nX5_endOf ⟨Nat.le_of_ble_eq_true rfl, Nat.le_of_ble_eq_true rfl⟩ hK hP20 hD21 (kCtx_places _ _ [1] rfl rfl) 0 5 rfl rfl rfl rfl hl3.1 (Nat.le_of_ble_eq_true rfl) dX6_canBe_118 ⟨Nat.zero_le _, Nat.zero_le _⟩) hP20 hD21 hS19 hA (kCtx_places _ _ [1] rfl rfl) (fun _ => rfl) (fun r23 _ H28 locs28 hw hP28 hD28 hS28 => ?_)
                have hr23 : aT 3 = r23 := (show r23 = aT 3 from hw).symm
                subst hr23
                have hP29 : va_P G.1 vwCl ([(h0, .inr (6, cQ (kc cA) t0 (aN 0) (aT 0) b0 s0 i0 e0 sd))] ++ (cW aT gT)) H28 := hP28
                have hD30 : va_D A ([(h0, .inr (6, cQ (kc cA) t0 (aN 0) (aT 0) b0 s0 i0 e0 sd))] ++ (cW aT gT)) := hD28
                refine lv_iload hx hb dX6_canBe_121 (lv_at hl3 0 rfl) ?_
                refine k_calli (kRunS (As := [.int (p0 / 100), .ref (aT 3), .int (kRem p0 10)]) (rest := []) kx (c_X6_isSo l G (gT 1) (aT 3) (aT 4) (p0 / 100) (kRem p0 10)) q_557 q_555 q_29 q_556 nX6_isSo ⟨Nat.le_of_ble_eq_true rfl, Nat.le_of_ble_eq_true rfl⟩ hK hP29 hD30 (kCtx_places _ _ [4, 5] rfl rfl) rfl hl3.1 (Nat.le_of_ble_eq_true rfl) dX6_canBe_123 ⟨Nat.zero_le _, Nat.zero_le _⟩) hP29 hD30 hS28 hA (kCtx_places _ _ [4, 5] rfl rfl) (fun _ => rfl) (fun r24 _ H31 locs31 hw hP31 hD31 hS31 => ?_)
                have hr24 : r_X6_isSo (gT 1) (p0 / 100) (kRem p0 10) = r24 := (show r24 = r_X6_isSo (gT 1) (p0 / 100) (kRem p0 10) from hw).symm
                have hP32 : va_P G.1 vwCl ([(h0, .inr (6, cQ (kc cA) t0 (aN 0) (aT 0) b0 s0 i0 e0 sd))] ++ (cW aT gT)) H31 := hP31
                have hD33 : va_D A ([(h0, .inr (6, cQ (kc cA) t0 (aN 0) (aT 0) b0 s0 i0 e0 sd))] ++ (cW aT gT)) := hD31
                refine lv_if_eq (x := r24) (tgt := 133) hx hb dX6_canBe_126 (by decide) (fun (c25 : r24 = 0) => ?_) (fun (c25 : ¬ (r24 = 0)) => ?_)
                · skip
                  refine lv_iconst (v := 0) hx hb dX6_canBe_133 (by decide) ?_
                  have er : r_X6_canBe gT p0 = 0 := by rw [r_X6_canBe]; (try rw [hr17]); (try rw [hr24]); rw [if_neg c1, if_neg c2, if_pos c14, if_neg c15, if_neg c16, if_neg c18, if_neg c19, if_pos c25]
                  have e0 : s_X6_canBe_gT gT p0 = gT := by rw [s_X6_canBe_gT]; (try rw [hr17]); (try rw [hr24]); rw [if_neg c1, if_neg c2, if_pos c14, if_neg c15, if_neg c16, if_neg c18, if_neg c19, if_pos c25]
                  exact k_zret kx hK hP32 hD33 hS31 (u := gT) rfl ⟨er.symm, e0.symm⟩ kb0 dX6_canBe_134
                · skip
                  refine lv_iconst (v := 1) hx hb dX6_canBe_129 (by decide) ?_
                  refine lv_goto (tgt := 134) hx hb dX6_canBe_130 (by decide) ?_
                  have er : r_X6_canBe gT p0 = 1 := by rw [r_X6_canBe]; (try rw [hr17]); (try rw [hr24]); rw [if_neg c1, if_neg c2, if_pos c14, if_neg c15, if_neg c16, if_neg c18, if_neg c19, if_neg c25]
                  have e0 : s_X6_canBe_gT gT p0 = gT := by rw [s_X6_canBe_gT]; (try rw [hr17]); (try rw [hr24]); rw [if_neg c1, if_neg c2, if_pos c14, if_neg c15, if_neg c16, if_neg c18, if_neg c19, if_neg c25]
                  exact k_zret kx hK hP32 hD33 hS31 (u := gT) rfl ⟨er.symm, e0.symm⟩ kb1 dX6_canBe_134
      · skip
        refine lv_iload_n hx hb dX6_canBe_66 rfl (lv_at hl3 1 rfl) ?_
        refine lv_if_ne (x := kRem (p0 / 10) 10) (tgt := 92) hx hb dX6_canBe_67 (by decide) (fun (c26 : ¬ (kRem (p0 / 10) 10 = 0)) => ?_) (fun (c26 : kRem (p0 / 10) 10 = 0) => ?_)
        · skip
          refine lv_iconst (v := 0) hx hb dX6_canBe_92 (by decide) ?_
          have er : r_X6_canBe gT p0 = 0 := by rw [r_X6_canBe, if_neg c1, if_neg c2, if_neg c14, if_neg c26]
          have e0 : s_X6_canBe_gT gT p0 = gT := by rw [s_X6_canBe_gT, if_neg c1, if_neg c2, if_neg c14, if_neg c26]
          exact k_zret kx hK hP hD hS (u := gT) rfl ⟨er.symm, e0.symm⟩ kb0 dX6_canBe_93
        · skip
          refine lv_iload hx hb dX6_canBe_70 (lv_at hl3 0 rfl) ?_
          refine k_calli (kRunS (As := [.int (kRem p0 10)]) (rest := []) kx (c_X6_isZeroOrOne l G (kRem p0 10)) q_431 q_429 q_29 q_430 nX6_isZeroOrOne ⟨Nat.le_of_ble_eq_true rfl, Nat.le_of_ble_eq_true rfl⟩ hK hP hD (kCtx_nil _) rfl hl3.1 (Nat.le_of_ble_eq_true rfl) dX6_canBe_72 ⟨Nat.zero_le _, Nat.zero_le _⟩) hP hD hS hA (kCtx_nil _) (fun _ => rfl) (fun r27 _ H34 locs34 hw hP34 hD34 hS34 => ?_)
          have hr27 : r_X6_isZeroOrOne (kRem p0 10) = r27 := (show r27 = r_X6_isZeroOrOne (kRem p0 10) from hw).symm
          have hP35 : va_P G.1 vwCl ([(h0, .inr (6, cQ (kc cA) t0 (aN 0) (aT 0) b0 s0 i0 e0 sd))] ++ (cW aT gT)) H34 := hP34
          have hD36 : va_D A ([(h0, .inr (6, cQ (kc cA) t0 (aN 0) (aT 0) b0 s0 i0 e0 sd))] ++ (cW aT gT)) := hD34
          refine lv_if_eq (x := r27) (tgt := 92) hx hb dX6_canBe_75 (by decide) (fun (c28 : r27 = 0) => ?_) (fun (c28 : ¬ (r27 = 0)) => ?_)
          · skip
            refine lv_iconst (v := 0) hx hb dX6_canBe_92 (by decide) ?_
            have er : r_X6_canBe gT p0 = 0 := by rw [r_X6_canBe]; (try rw [hr27]); rw [if_neg c1, if_neg c2, if_neg c14, if_pos c26, if_pos c28]
            have e0 : s_X6_canBe_gT gT p0 = gT := by rw [s_X6_canBe_gT]; (try rw [hr27]); rw [if_neg c1, if_neg c2, if_neg c14, if_pos c26, if_pos c28]
            exact k_zret kx hK hP35 hD36 hS34 (u := gT) rfl ⟨er.symm, e0.symm⟩ kb0 dX6_canBe_93
          · skip
            refine lv_aload_n hx hb dX6_canBe_78 rfl (lv_at hl3 3 rfl) ?_
            refine lv_iload_n hx hb dX6_canBe_79 rfl (lv_at hl3 2 rfl) ?_
            refine lv_iload hx hb dX6_canBe_80 (lv_at hl3 0 rfl) ?_
            refine k_calli (kRunV (As := [.int (p0 / 100), .int (kRem p0 10)]) (rest := []) kx (c_X6_canBeDone l G cA sd h0 t0 aN aT b0 s0 i0 e0 gT (p0 / 100) (kRem p0 10) hT) q_554 q_551 q_29 q_553 q_8 nX6_canBeDone ⟨Nat.le_of_ble_eq_true rfl, Nat.le_of_ble_eq_true rfl⟩ hK hP35 hD36 (kCtx_all _) 0 6 rfl rfl rfl rfl hl3.1 (Nat.le_of_ble_eq_true rfl) dX6_canBe_82 ⟨Nat.zero_le _, Nat.zero_le _⟩) hP35 hD36 hS34 hA (kCtx_all _) (fun _ => rfl) (fun r29 g30 H37 locs37 hw hP37 hD37 hS37 => ?_)
            obtain ⟨hr29, hg30⟩ := hw
            have hr29 : r_X6_canBeDone gT (p0 / 100) (kRem p0 10) = r29 := (show r29 = r_X6_canBeDone gT (p0 / 100) (kRem p0 10) from hr29).symm
            have hg30 : s_X6_canBeDone_gT gT (p0 / 100) (kRem p0 10) = g30 := (show g30 = s_X6_canBeDone_gT gT (p0 / 100) (kRem p0 10) from hg30).symm
            have hP38 : va_P G.1 vwCl ([(h0, .inr (6, cQ (kc cA) t0 (aN 0) (aT 0) b0 s0 i0 e0 sd))] ++ (cW aT g30)) H37 := hP37
            have hD39 : va_D A ([(h0, .inr (6, cQ (kc cA) t0 (aN 0) (aT 0) b0 s0 i0 e0 sd))] ++ (cW aT g30)) := hD37
            refine lv_if_eq (x := r29) (tgt := 92) hx hb dX6_canBe_85 (by decide) (fun (c31 : r29 = 0) => ?_) (fun (c31 : ¬ (r29 = 0)) => ?_)
            · skip
              refine lv_iconst (v := 0) hx hb dX6_canBe_92 (by decide) ?_
              have er : r_X6_canBe gT p0 = 0 := by rw [r_X6_canBe]; (try rw [hr27]); (try rw [hg30]); (try rw [hr29]); rw [if_neg c1, if_neg c2, if_neg c14, if_pos c26, if_neg c28, if_pos c31]
              have e0 : s_X6_canBe_gT gT p0 = g30 := by rw [s_X6_canBe_gT]; (try rw [hr27]); (try rw [hg30]); (try rw [hr29]); rw [if_neg c1, if_neg c2, if_neg c14, if_pos c26, if_neg c28, if_pos c31]
              exact k_zret kx hK hP38 hD39 hS37 (u := g30) rfl ⟨er.symm, e0.symm⟩ kb0 dX6_canBe_93
            · skip
              refine lv_iconst (v := 1) hx hb dX6_canBe_88 (by decide) ?_
              refine lv_goto (tgt := 93) hx hb dX6_canBe_89 (by decide) ?_
              have er : r_X6_canBe gT p0 = 1 := by rw [r_X6_canBe]; (try rw [hr27]); (try rw [hg30]); (try rw [hr29]); rw [if_neg c1, if_neg c2, if_neg c14, if_pos c26, if_neg c28, if_neg c31]
              have e0 : s_X6_canBe_gT gT p0 = g30 := by rw [s_X6_canBe_gT]; (try rw [hr27]); (try rw [hg30]); (try rw [hr29]); rw [if_neg c1, if_neg c2, if_neg c14, if_pos c26, if_neg c28, if_neg c31]
              exact k_zret kx hK hP38 hD39 hS37 (u := g30) rfl ⟨er.symm, e0.symm⟩ kb1 dX6_canBe_93
  · skip
    refine lv_iload_n hx hb dX6_canBe_24 rfl (lv_at hl3 4 rfl) ?_
    refine lv_bipush (v := 100) hx hb dX6_canBe_25 (by decide) ?_
    refine lv_irem hx hb dX6_canBe_27 (by decide) ?_
    refine k_top (y := kRem p0 100) rfl ?_
    refine lv_istore (lv' := [(5, .int (kRem p0 100)), (4, .int (kRem p0 10)), (3, .int (kRem (p0 / 10) 10)), (2, .int (p0 / 100)), (0, .ref h0), (1, .int p0)]) hx hb dX6_canBe_28 hl3 (by decide) rfl (fun ls40 hl40 => ?_)
    refine lv_iload hx hb dX6_canBe_30 (lv_at hl40 0 rfl) ?_
    refine lv_iconst (v := 1) hx hb dX6_canBe_32 (by decide) ?_
    refine lv_icmp_lt (x := kRem p0 100) (y := 1) (tgt := 43) hx hb dX6_canBe_33 (by decide) (fun (c32 : kRem p0 100 < 1) => ?_) (fun (c32 : ¬ (kRem p0 100 < 1)) => ?_)
    · skip
      refine lv_iconst (v := 0) hx hb dX6_canBe_43 (by decide) ?_
      have er : r_X6_canBe gT p0 = 0 := by rw [r_X6_canBe, if_pos c1, if_pos c32]
      have e0 : s_X6_canBe_gT gT p0 = gT := by rw [s_X6_canBe_gT, if_pos c1, if_pos c32]
      exact k_zret kx hK hP hD hS (u := gT) rfl ⟨er.symm, e0.symm⟩ kb0 dX6_canBe_44
    · skip
      refine lv_iload hx hb dX6_canBe_36 (lv_at hl40 0 rfl) ?_
      refine lv_bipush (v := 30) hx hb dX6_canBe_38 (by decide) ?_
      refine lv_icmp_le (x := kRem p0 100) (y := 30) (tgt := 45) hx hb dX6_canBe_40 (by decide) (fun (c33 : kRem p0 100 ≤ 30) => ?_) (fun (c33 : ¬ (kRem p0 100 ≤ 30)) => ?_)
      · skip
        refine lv_aload_n hx hb dX6_canBe_45 rfl (lv_at hl40 4 rfl) ?_
        refine va_get (ci := 6) (v := .ref (aT 0)) (C := RX6) (T := TX6) (N := 9) hx hb ht inX6 hown hK.1 hP 0 rfl rfl 2 (by decide) (ht _ q_265) (fun _ h9 => h9) rfl dX6_canBe_46 ?_
        refine lv_iload hx hb dX6_canBe_49 (lv_at hl40 0 rfl) ?_
        refine k_callv (kRunV (As := [.int (kRem p0 100)]) (rest := []) kx (c_X5_run l G gT aT (kRem p0 100) hT) q_355 q_498 q_31 q_353 q_354 nX5_run ⟨Nat.le_of_ble_eq_true rfl, Nat.le_of_ble_eq_true rfl⟩ hK hP hD (kCtx_end _ _) 0 5 rfl rfl rfl rfl hl40.1 (Nat.le_of_ble_eq_true rfl) dX6_canBe_51 ⟨Nat.zero_le _, Nat.zero_le _⟩) hP hD hS hA (kCtx_end _ _) (fun _ => rfl) (fun g35 H41 locs41 hw hP41 hD41 hS41 => ?_)
        have hg35 : s_X5_run_g gT (kRem p0 100) = g35 := (show g35 = s_X5_run_g gT (kRem p0 100) from hw).symm
        have hP42 : va_P G.1 vwCl ([(h0, .inr (6, cQ (kc cA) t0 (aN 0) (aT 0) b0 s0 i0 e0 sd))] ++ (cW aT g35)) H41 := hP41
        have hD43 : va_D A ([(h0, .inr (6, cQ (kc cA) t0 (aN 0) (aT 0) b0 s0 i0 e0 sd))] ++ (cW aT g35)) := hD41
        refine lv_iconst (v := 1) hx hb dX6_canBe_54 (by decide) ?_
        have er : r_X6_canBe gT p0 = 1 := by rw [r_X6_canBe]; (try rw [hg35]); rw [if_pos c1, if_neg c32, if_pos c33]
        have e0 : s_X6_canBe_gT gT p0 = g35 := by rw [s_X6_canBe_gT]; (try rw [hg35]); rw [if_pos c1, if_neg c32, if_pos c33]
        exact k_zret kx hK hP42 hD43 hS41 (u := g35) rfl ⟨er.symm, e0.symm⟩ kb1 dX6_canBe_55
      · skip
        refine lv_iconst (v := 0) hx hb dX6_canBe_43 (by decide) ?_
        have er : r_X6_canBe gT p0 = 0 := by rw [r_X6_canBe, if_pos c1, if_neg c32, if_neg c33]
        have e0 : s_X6_canBe_gT gT p0 = gT := by rw [s_X6_canBe_gT, if_pos c1, if_neg c32, if_neg c33]
        exact k_zret kx hK hP hD hS (u := gT) rfl ⟨er.symm, e0.symm⟩ kb0 dX6_canBe_44
theorem b_s_X6_canBe_gT (gT : Nat → Nat → Int32) (p0 : Int32) (hT : bW gT) : bW (s_X6_canBe_gT gT p0) := by
  unfold s_X6_canBe_gT
  split
  · skip
    split
    · skip
      exact hT
    · skip
      split
      · skip
        exact (b_s_X5_run_g gT (kRem p0 100) hT)
      · skip
        exact hT
  · skip
    split
    · skip
      split
      · skip
        exact hT
      · skip
        split
        · skip
          exact hT
        · skip
          split
          · skip
            exact hT
          · skip
            split
            · skip
              split
              · skip
                exact hT
              · skip
                exact hT
            · skip
              split
              · skip
                exact hT
              · skip
                exact hT
    · skip
      split
      · skip
        split
        · skip
          exact hT
        · skip
          split
          · skip
            exact hT
          · skip
            split
            · skip
              exact hT
            · skip
              split
              · skip
                split
                · skip
                  exact hT
                · skip
                  exact hT
              · skip
                split
                · skip
                  exact hT
                · skip
                  exact hT
      · skip
        split
        · skip
          split
          · skip
            exact hT
          · skip
            split
            · skip
              exact (b_s_X6_canBeDone_gT gT (p0 / 100) (kRem p0 10) hT)
            · skip
              exact (b_s_X6_canBeDone_gT gT (p0 / 100) (kRem p0 10) hT)
        · skip
          exact hT

def l_X6_judge_1_r (p0 : Int32) (p1 : Int64) : Nat → Nat → (Nat → Nat → Int32) → Int32
  | 0, j1, gT_1 => (-9)
  | n1 + 1, j1, gT_1 => if (r_X6_canBe gT_1 ((kRemL (r_X6_withoutLast p1 ((p0 - 1) - (nI j1))) 1000).toInt32)) = 0 then (nI j1) else l_X6_judge_1_r p0 p1 n1 (j1 + 1) (s_X6_canBe_gT gT_1 ((kRemL (r_X6_withoutLast p1 ((p0 - 1) - (nI j1))) 1000).toInt32))
def r_X6_judge (gN : Nat → Nat → Int32) (p0 : Int32) (p1 : Int64) : Int32 := if p0 < 1 then (-2) else if 4 < p0 then (-2) else if lg_cmp p1 0 < 0 then (-2) else if lg_cmp (r_X6_withoutLast p1 p0) 0 = 0 then (l_X6_judge_1_r p0 p1 p0.toNatClampNeg 0 gN) else (-2)
def l_X6_judge_1_gT (p0 : Int32) (p1 : Int64) : Nat → Nat → (Nat → Nat → Int32) → Nat → Nat → Int32
  | 0, j1, gT_1 => gT_1
  | n1 + 1, j1, gT_1 => if (r_X6_canBe gT_1 ((kRemL (r_X6_withoutLast p1 ((p0 - 1) - (nI j1))) 1000).toInt32)) = 0 then (s_X6_canBe_gT gT_1 ((kRemL (r_X6_withoutLast p1 ((p0 - 1) - (nI j1))) 1000).toInt32)) else l_X6_judge_1_gT p0 p1 n1 (j1 + 1) (s_X6_canBe_gT gT_1 ((kRemL (r_X6_withoutLast p1 ((p0 - 1) - (nI j1))) 1000).toInt32))
def s_X6_judge_gT (gN : Nat → Nat → Int32) (gT : Nat → Nat → Int32) (p0 : Int32) (p1 : Int64) : Nat → Nat → Int32 := if p0 < 1 then gT else if 4 < p0 then gT else if lg_cmp p1 0 < 0 then gT else if lg_cmp (r_X6_withoutLast p1 p0) 0 = 0 then (l_X6_judge_1_gT p0 p1 p0.toNatClampNeg 0 gN) else gT
set_option maxHeartbeats 4000000 in
set_option maxRecDepth 100000 in
theorem c_X6_judge (l : Launch) (G : kG) (cA : Int32) (sd : Int64) (h0 : Nat) (t0 : Nat) (aN : Nat → Nat) (aT : Nat → Nat) (b0 : Nat) (s0 : Nat) (i0 : Nat) (e0 : Nat) (gN : Nat → Nat → Int32) (gT : Nat → Nat → Int32) (p0 : Int32) (p1 : Int64) (hN : bW gN) : cG l G yX6_judge cX6_judge 6 (some .int) 6 [.ref h0, .int p0, .long p1] ([(h0, .inr (6, cQ (kc cA) t0 (aN 0) (aT 0) b0 s0 i0 e0 sd))] ++ (cW aN gN ++ (cW aT gT))) (qI G (fun (r : Int32) (u : (Nat → Nat → Int32)) => r = r_X6_judge gN p0 p1 ∧ u = s_X6_judge_gT gN gT p0 p1) (fun u => [(h0, .inr (6, cQ (kc cA) t0 (aN 0) (aT 0) b0 s0 i0 e0 sd))] ++ (cW aN gN ++ (cW aT u)))) := by
  refine kintro (by decide) (Nat.le_of_ble_eq_true rfl) ?_
  intro p e s m args below meth c A ls kx hK hP hD hS hA hl
  have kx : kX p s m args meth c cX6_judge 6 (some .int) RX6 := kx
  have hx := kx.1
  have hb := kx.2.1
  have hown := kx.2.2.2.2.1
  have ht := kx.2.2.2.2.2.2
  have hl : lv_has ls 6 [(0, .ref h0), (1, .int p0), (2, .long p1)] := hl
  refine lv_iload_n hx hb dX6_judge_0 rfl (lv_at hl 1 rfl) ?_
  refine lv_iconst (v := 1) hx hb dX6_judge_1 (by decide) ?_
  refine lv_icmp_lt (x := p0) (y := 1) (tgt := 26) hx hb dX6_judge_2 (by decide) (fun (c1 : p0 < 1) => ?_) (fun (c1 : ¬ (p0 < 1)) => ?_)
  · skip
    refine lv_bipush (v := (-2)) hx hb dX6_judge_26 (by decide) ?_
    have er : r_X6_judge gN p0 p1 = (-2) := by rw [r_X6_judge, if_pos c1]
    have e0 : s_X6_judge_gT gN gT p0 p1 = gT := by rw [s_X6_judge_gT, if_pos c1]
    exact k_iret kx hK hP hD hS (u := gT) rfl ⟨er.symm, e0.symm⟩ dX6_judge_28
  · skip
    refine lv_iload_n hx hb dX6_judge_5 rfl (lv_at hl 1 rfl) ?_
    refine lv_iconst (v := 4) hx hb dX6_judge_6 (by decide) ?_
    refine lv_icmp_gt (x := p0) (y := 4) (tgt := 26) hx hb dX6_judge_7 (by decide) (fun (c2 : 4 < p0) => ?_) (fun (c2 : ¬ (4 < p0)) => ?_)
    · skip
      refine lv_bipush (v := (-2)) hx hb dX6_judge_26 (by decide) ?_
      have er : r_X6_judge gN p0 p1 = (-2) := by rw [r_X6_judge, if_neg c1, if_pos c2]
      have e0 : s_X6_judge_gT gN gT p0 p1 = gT := by rw [s_X6_judge_gT, if_neg c1, if_pos c2]
      exact k_iret kx hK hP hD hS (u := gT) rfl ⟨er.symm, e0.symm⟩ dX6_judge_28
    · skip
      refine lv_lload_n hx hb dX6_judge_10 rfl (lv_at hl 2 rfl) ?_
      refine lv_lconst (v := 0) hx hb dX6_judge_11 (by decide) ?_
      refine W.lcmp hx hb dX6_judge_12 ?_
      refine lv_if_lt (x := lg_cmp p1 0) (tgt := 26) hx hb dX6_judge_13 (by decide) (fun (c3 : lg_cmp p1 0 < 0) => ?_) (fun (c3 : ¬ (lg_cmp p1 0 < 0)) => ?_)
      · skip
        refine lv_bipush (v := (-2)) hx hb dX6_judge_26 (by decide) ?_
        have er : r_X6_judge gN p0 p1 = (-2) := by rw [r_X6_judge, if_neg c1, if_neg c2, if_pos c3]
        have e0 : s_X6_judge_gT gN gT p0 p1 = gT := by rw [s_X6_judge_gT, if_neg c1, if_neg c2, if_pos c3]
        exact k_iret kx hK hP hD hS (u := gT) rfl ⟨er.symm, e0.symm⟩ dX6_judge_28
      · skip
        refine lv_lload_n hx hb dX6_judge_16 rfl (lv_at hl 2 rfl) ?_
        refine lv_iload_n hx hb dX6_judge_17 rfl (lv_at hl 1 rfl) ?_
        refine k_calll (kRunS (As := [.long p1, .int p0]) (rest := []) kx (c_X6_withoutLast l G p1 p0) q_545 q_543 q_29 q_544 nX6_withoutLast ⟨Nat.le_of_ble_eq_true rfl, Nat.le_of_ble_eq_true rfl⟩ hK hP hD (kCtx_nil _) rfl hl.1 (Nat.le_of_ble_eq_true rfl) dX6_judge_18 ⟨Nat.zero_le _, Nat.zero_le _⟩) hP hD hS hA (kCtx_nil _) (fun _ => rfl) (fun r4 _ H1 locs1 hw hP1 hD1 hS1 => ?_)
        have hr4 : r_X6_withoutLast p1 p0 = r4 := (show r4 = r_X6_withoutLast p1 p0 from hw).symm
        have hP2 : va_P G.1 vwCl ([(h0, .inr (6, cQ (kc cA) t0 (aN 0) (aT 0) b0 s0 i0 e0 sd))] ++ (cW aN gN ++ (cW aT gT))) H1 := hP1
        have hD3 : va_D A ([(h0, .inr (6, cQ (kc cA) t0 (aN 0) (aT 0) b0 s0 i0 e0 sd))] ++ (cW aN gN ++ (cW aT gT))) := hD1
        refine lv_lconst (v := 0) hx hb dX6_judge_21 (by decide) ?_
        refine W.lcmp hx hb dX6_judge_22 ?_
        refine lv_if_eq (x := lg_cmp r4 0) (tgt := 29) hx hb dX6_judge_23 (by decide) (fun (c5 : lg_cmp r4 0 = 0) => ?_) (fun (c5 : ¬ (lg_cmp r4 0 = 0)) => ?_)
        · skip
          refine lv_aload_n hx hb dX6_judge_29 rfl (lv_at hl 0 rfl) ?_
          refine va_get (ci := 6) (v := .ref (aT 0)) (C := RX6) (T := TX6) (N := 9) hx hb ht inX6 hown hK.1 hP2 0 rfl rfl 2 (by decide) (ht _ q_265) (fun _ h9 => h9) rfl dX6_judge_30 ?_
          refine lv_aload_n hx hb dX6_judge_33 rfl (lv_at hl 0 rfl) ?_
          refine va_get (ci := 6) (v := .ref (aN 0)) (C := RX6) (T := TX6) (N := 9) hx hb ht inX6 hown hK.1 hP2 0 rfl rfl 1 (by decide) (ht _ q_264) (fun _ h9 => h9) rfl dX6_judge_34 ?_
          refine k_callv (kRunV (As := [.ref (aN 0)]) (rest := []) kx (c_X5_copyFrom l G gT gN aT aN hN) q_439 q_436 q_31 q_437 q_438 nX5_copyFrom ⟨Nat.le_of_ble_eq_true rfl, Nat.le_of_ble_eq_true rfl⟩ hK hP2 hD3 (kCtx_in (kCtx_swap0 _ _)) 0 5 rfl rfl rfl rfl hl.1 (Nat.le_of_ble_eq_true rfl) dX6_judge_37 ⟨Nat.zero_le _, Nat.zero_le _⟩) hP2 hD3 hS1 hA (kCtx_in (kCtx_swap0 _ _)) (fun _ => rfl) (fun _ H4 locs4 hw hP4 hD4 hS4 => ?_)
          have hP5 : va_P G.1 vwCl ([(h0, .inr (6, cQ (kc cA) t0 (aN 0) (aT 0) b0 s0 i0 e0 sd))] ++ (cW aN gN ++ (cW aT gN))) H4 := hP4
          have hD6 : va_D A ([(h0, .inr (6, cQ (kc cA) t0 (aN 0) (aT 0) b0 s0 i0 e0 sd))] ++ (cW aN gN ++ (cW aT gN))) := hD4
          refine lv_iconst (v := 0) hx hb dX6_judge_40 (by decide) ?_
          refine lv_istore (lv' := [(4, .int 0), (0, .ref h0), (1, .int p0), (2, .long p1)]) hx hb dX6_judge_41 hl (by decide) rfl (fun ls7 hl7 => ?_)
          subst hr4
          have lp1 : ∀ (n1 j1 : Nat) (gT_1 : Nat → Nat → Int32), j1 + n1 = p0.toNatClampNeg → (hr_1 : r_X6_judge gN p0 p1 = l_X6_judge_1_r p0 p1 n1 j1 gT_1) → (hgT_1 : s_X6_judge_gT gN gT p0 p1 = l_X6_judge_1_gT p0 p1 n1 j1 gT_1) → (hb1 : bW gT_1) → ∀ (H : Heap) (locs : List Loc) (ls : Array Slot), va_P G.1 vwCl ([(h0, .inr (6, cQ (kc cA) t0 (aN 0) (aT 0) b0 s0 i0 e0 sd))] ++ (cW aN gN ++ (cW aT gT_1))) H → va_D A ([(h0, .inr (6, cQ (kc cA) t0 (aN 0) (aT 0) b0 s0 i0 e0 sd))] ++ (cW aN gN ++ (cW aT gT_1))) → va_S A s.heap H locs → lv_has ls 6 [(0, .ref h0), (1, .int p0), (2, .long p1), (4, .int (nI j1))] → W p l e (kr 6) s m args below meth c H locs 0 0 (MQ below (qI G (fun (r : Int32) (u : (Nat → Nat → Int32)) => r = r_X6_judge gN p0 p1 ∧ u = s_X6_judge_gT gN gT p0 p1) (fun u => [(h0, .inr (6, cQ (kc cA) t0 (aN 0) (aT 0) b0 s0 i0 e0 sd))] ++ (cW aN gN ++ (cW aT u))) A) args s 0 0 A) (F0 m 43 ls []) := by
            intro n1
            induction n1 with
            | zero =>
              intro j1 gT_1 hj1 hr_1 hgT_1 hb1 H8 locs8 ls8 hP8 hD8 hS8 hl8
              refine lv_iload hx hb dX6_judge_43 (lv_at hl8 3 rfl) ?_
              refine lv_iload_n hx hb dX6_judge_45 rfl (lv_at hl8 1 rfl) ?_
              refine lv_icmp_ge (x := nI j1) (y := p0) (tgt := 84) hx hb dX6_judge_46 (by decide) (fun (c7 : p0 ≤ nI j1) => ?_) (fun (c7 : ¬ (p0 ≤ nI j1)) => absurd (krun_z hj1) c7)
              refine lv_bipush (v := (-9)) hx hb dX6_judge_84 (by decide) ?_
              have er : r_X6_judge gN p0 p1 = (-9) := by rw [hr_1, l_X6_judge_1_r]
              have e0 : s_X6_judge_gT gN gT p0 p1 = gT_1 := by rw [hgT_1, l_X6_judge_1_gT]
              exact k_iret kx hK hP8 hD8 hS8 (u := gT_1) rfl ⟨er.symm, e0.symm⟩ dX6_judge_86
            | succ n1 ih1 =>
              intro j1 gT_1 hj1 hr_1 hgT_1 hb1 H8 locs8 ls8 hP8 hD8 hS8 hl8
              refine lv_iload hx hb dX6_judge_43 (lv_at hl8 3 rfl) ?_
              refine lv_iload_n hx hb dX6_judge_45 rfl (lv_at hl8 1 rfl) ?_
              refine lv_icmp_ge (x := nI j1) (y := p0) (tgt := 84) hx hb dX6_judge_46 (by decide) (fun (c8 : p0 ≤ nI j1) => absurd c8 (krun_s hj1)) (fun (c8 : ¬ (p0 ≤ nI j1)) => ?_)
              refine lv_lload_n hx hb dX6_judge_49 rfl (lv_at hl8 2 rfl) ?_
              refine lv_iload_n hx hb dX6_judge_50 rfl (lv_at hl8 1 rfl) ?_
              refine lv_iconst (v := 1) hx hb dX6_judge_51 (by decide) ?_
              refine lv_isub hx hb dX6_judge_52 ?_
              refine lv_iload hx hb dX6_judge_53 (lv_at hl8 3 rfl) ?_
              refine lv_isub hx hb dX6_judge_55 ?_
              refine k_calll (kRunS (As := [.long p1, .int ((p0 - 1) - (nI j1))]) (rest := []) kx (c_X6_withoutLast l G p1 ((p0 - 1) - (nI j1))) q_545 q_543 q_29 q_544 nX6_withoutLast ⟨Nat.le_of_ble_eq_true rfl, Nat.le_of_ble_eq_true rfl⟩ hK hP8 hD8 (kCtx_nil _) rfl hl8.1 (Nat.le_of_ble_eq_true rfl) dX6_judge_56 ⟨Nat.zero_le _, Nat.zero_le _⟩) hP8 hD8 hS8 hA (kCtx_nil _) (fun _ => rfl) (fun r9 _ H9 locs9 hw hP9 hD9 hS9 => ?_)
              have hr9 : r_X6_withoutLast p1 ((p0 - 1) - (nI j1)) = r9 := (show r9 = r_X6_withoutLast p1 ((p0 - 1) - (nI j1)) from hw).symm
              have hP10 : va_P G.1 vwCl ([(h0, .inr (6, cQ (kc cA) t0 (aN 0) (aT 0) b0 s0 i0 e0 sd))] ++ (cW aN gN ++ (cW aT gT_1))) H9 := hP9
              have hD11 : va_D A ([(h0, .inr (6, cQ (kc cA) t0 (aN 0) (aT 0) b0 s0 i0 e0 sd))] ++ (cW aN gN ++ (cW aT gT_1))) := hD9
              refine lv_ldc2 (v := 1000) hx hb hown (ht _ q_546) dX6_judge_59 ?_
              refine lv_lrem hx hb dX6_judge_62 (by decide) ?_
              refine k_topl (y := kRemL r9 1000) rfl ?_
              refine lv_l2i (v := (kRemL r9 1000).toInt32) hx hb dX6_judge_63 rfl ?_
              refine lv_istore (lv' := [(5, .int ((kRemL r9 1000).toInt32)), (0, .ref h0), (1, .int p0), (2, .long p1), (4, .int (nI j1))]) hx hb dX6_judge_64 hl8 (by decide) rfl (fun ls12 hl12 => ?_)
              refine lv_aload_n hx hb dX6_judge_66 rfl (lv_at hl12 1 rfl) ?_
              refine lv_iload hx hb dX6_judge_67 (lv_at hl12 0 rfl) ?_
              refine k_calli (kRunV (As := [.int ((kRemL r9 1000).toInt32)]) (rest := []) kx (c_X6_canBe l G cA sd h0 t0 aN aT b0 s0 i0 e0 gT_1 ((kRemL r9 1000).toInt32) hb1) q_550 q_547 q_29 q_549 q_7 nX6_canBe ⟨Nat.le_of_ble_eq_true rfl, Nat.le_of_ble_eq_true rfl⟩ hK hP10 hD11 (kCtx_places _ _ [0, 10, 11, 12, 13, 14, 15, 16, 17, 18] rfl rfl) 0 6 rfl rfl rfl rfl hl12.1 (Nat.le_of_ble_eq_true rfl) dX6_judge_69 ⟨Nat.zero_le _, Nat.zero_le _⟩) hP10 hD11 hS9 hA (kCtx_places _ _ [0, 10, 11, 12, 13, 14, 15, 16, 17, 18] rfl rfl) (fun _ => rfl) (fun r10 g11 H13 locs13 hw hP13 hD13 hS13 => ?_)
              obtain ⟨hr10, hg11⟩ := hw
              have hr10 : r_X6_canBe gT_1 ((kRemL r9 1000).toInt32) = r10 := (show r10 = r_X6_canBe gT_1 ((kRemL r9 1000).toInt32) from hr10).symm
              have hg11 : s_X6_canBe_gT gT_1 ((kRemL r9 1000).toInt32) = g11 := (show g11 = s_X6_canBe_gT gT_1 ((kRemL r9 1000).toInt32) from hg11).symm
              have hP14 : va_P G.1 vwCl ([(h0, .inr (6, cQ (kc cA) t0 (aN 0) (aT 0) b0 s0 i0 e0 sd))] ++ (cW aN gN ++ (cW aT g11))) H13 := hP13
              have hD15 : va_D A ([(h0, .inr (6, cQ (kc cA) t0 (aN 0) (aT 0) b0 s0 i0 e0 sd))] ++ (cW aN gN ++ (cW aT g11))) := hD13
              refine lv_if_ne (x := r10) (tgt := 78) hx hb dX6_judge_72 (by decide) (fun (c12 : ¬ (r10 = 0)) => ?_) (fun (c12 : r10 = 0) => ?_)
              · skip
                refine lv_iinc (v := nI (j1 + 1)) (lv' := [(4, .int (nI (j1 + 1))), (5, .int ((kRemL r9 1000).toInt32)), (0, .ref h0), (1, .int p0), (2, .long p1)]) hx hb dX6_judge_78 hl12 (k := 4) rfl (nI_1 j1) (by decide) rfl (fun ls16 hl16 => ?_)
                refine lv_goto (tgt := 43) hx hb dX6_judge_81 (by decide) ?_
                subst hr9
                subst hg11
                subst hr10
                have gr : r_X6_judge gN p0 p1 = l_X6_judge_1_r p0 p1 n1 (j1 + 1) (s_X6_canBe_gT gT_1 ((kRemL (r_X6_withoutLast p1 ((p0 - 1) - (nI j1))) 1000).toInt32)) := by rw [hr_1, l_X6_judge_1_r, if_neg c12]
                have ggT : s_X6_judge_gT gN gT p0 p1 = l_X6_judge_1_gT p0 p1 n1 (j1 + 1) (s_X6_canBe_gT gT_1 ((kRemL (r_X6_withoutLast p1 ((p0 - 1) - (nI j1))) 1000).toInt32)) := by rw [hgT_1, l_X6_judge_1_gT, if_neg c12]
                exact ih1 (j1 + 1) (s_X6_canBe_gT gT_1 ((kRemL (r_X6_withoutLast p1 ((p0 - 1) - (nI j1))) 1000).toInt32)) (by omega) gr ggT (b_s_X6_canBe_gT gT_1 ((kRemL (r_X6_withoutLast p1 ((p0 - 1) - (nI j1))) 1000).toInt32) hb1) _ _ _ hP14 hD15 hS13 (lv_sub hl16 [2, 3, 4, 0] rfl)
              · skip
                refine lv_iload hx hb dX6_judge_75 (lv_at hl12 4 rfl) ?_
                have er : r_X6_judge gN p0 p1 = nI j1 := by rw [hr_1, l_X6_judge_1_r]; (try rw [hr9]); (try rw [hg11]); (try rw [hr10]); rw [if_pos c12]
                have e0 : s_X6_judge_gT gN gT p0 p1 = g11 := by rw [hgT_1, l_X6_judge_1_gT]; (try rw [hr9]); (try rw [hg11]); (try rw [hr10]); rw [if_pos c12]
                exact k_iret kx hK hP14 hD15 hS13 (u := g11) rfl ⟨er.symm, e0.symm⟩ dX6_judge_77
          have gr : r_X6_judge gN p0 p1 = l_X6_judge_1_r p0 p1 p0.toNatClampNeg 0 gN := by rw [r_X6_judge, if_neg c1, if_neg c2, if_neg c3, if_pos c5]
          have ggT : s_X6_judge_gT gN gT p0 p1 = l_X6_judge_1_gT p0 p1 p0.toNatClampNeg 0 gN := by rw [s_X6_judge_gT, if_neg c1, if_neg c2, if_neg c3, if_pos c5]
          exact lp1 p0.toNatClampNeg 0 gN (by omega) gr ggT hN _ _ _ hP5 hD6 hS4 (lv_sub hl7 [1, 2, 3, 0] rfl)
        · skip
          refine lv_bipush (v := (-2)) hx hb dX6_judge_26 (by decide) ?_
          have er : r_X6_judge gN p0 p1 = (-2) := by rw [r_X6_judge]; (try rw [hr4]); rw [if_neg c1, if_neg c2, if_neg c3, if_neg c5]
          have e0 : s_X6_judge_gT gN gT p0 p1 = gT := by rw [s_X6_judge_gT]; (try rw [hr4]); rw [if_neg c1, if_neg c2, if_neg c3, if_neg c5]
          exact k_iret kx hK hP2 hD3 hS1 (u := gT) rfl ⟨er.symm, e0.symm⟩ dX6_judge_28

def l_X6_drawn_1_r (gN : Nat → Nat → Int32) : Nat → Nat → (Nat → Nat → Int32) → Int64 → Int32
  | 0, j1, gT_1, sd_1 => (gT_1 4 2) - (gN 4 2)
  | n1 + 1, j1, gT_1, sd_1 => if kRem ((kUshrL ((sd_1 * 6364136223846793005) + 1442695040888963407) 33).toInt32) 16 = 0 then (if kRem (((kUshrL ((sd_1 * 6364136223846793005) + 1442695040888963407) 33).toInt32) / 16) 2 = 0 then (l_X6_drawn_1_r gN n1 (j1 + 1) (s_X5_tick_g (kg (gT_1 0) (gT_1 1) (s_X4_turnOver_Y (gT_1 2)) (gT_1 3) (gT_1 4))) ((sd_1 * 6364136223846793005) + 1442695040888963407)) else l_X6_drawn_1_r gN n1 (j1 + 1) (s_X5_tick_g (kg (gT_1 0) (gT_1 1) (gT_1 2) (s_X4_turnOver_Y (gT_1 3)) (gT_1 4))) ((sd_1 * 6364136223846793005) + 1442695040888963407)) else l_X6_drawn_1_r gN n1 (j1 + 1) (s_X5_tick_g gT_1) ((sd_1 * 6364136223846793005) + 1442695040888963407)
def r_X6_drawn (sd : Int64) (gN : Nat → Nat → Int32) (p0 : Int32) : Int32 := if p0 < 1 then (-2) else if p0 ≤ 99 then (l_X6_drawn_1_r gN p0.toNatClampNeg 0 gN sd) else (-2)
def l_X6_drawn_1_gT : Nat → Nat → (Nat → Nat → Int32) → Int64 → Nat → Nat → Int32
  | 0, j1, gT_1, sd_1 => gT_1
  | n1 + 1, j1, gT_1, sd_1 => if kRem ((kUshrL ((sd_1 * 6364136223846793005) + 1442695040888963407) 33).toInt32) 16 = 0 then (if kRem (((kUshrL ((sd_1 * 6364136223846793005) + 1442695040888963407) 33).toInt32) / 16) 2 = 0 then (l_X6_drawn_1_gT n1 (j1 + 1) (s_X5_tick_g (kg (gT_1 0) (gT_1 1) (s_X4_turnOver_Y (gT_1 2)) (gT_1 3) (gT_1 4))) ((sd_1 * 6364136223846793005) + 1442695040888963407)) else l_X6_drawn_1_gT n1 (j1 + 1) (s_X5_tick_g (kg (gT_1 0) (gT_1 1) (gT_1 2) (s_X4_turnOver_Y (gT_1 3)) (gT_1 4))) ((sd_1 * 6364136223846793005) + 1442695040888963407)) else l_X6_drawn_1_gT n1 (j1 + 1) (s_X5_tick_g gT_1) ((sd_1 * 6364136223846793005) + 1442695040888963407)
def s_X6_drawn_gT (sd : Int64) (gN : Nat → Nat → Int32) (gT : Nat → Nat → Int32) (p0 : Int32) : Nat → Nat → Int32 := if p0 < 1 then gT else if p0 ≤ 99 then (l_X6_drawn_1_gT p0.toNatClampNeg 0 gN sd) else gT
def l_X6_drawn_1_sd : Nat → Nat → (Nat → Nat → Int32) → Int64 → Int64
  | 0, j1, gT_1, sd_1 => sd_1
  | n1 + 1, j1, gT_1, sd_1 => if kRem ((kUshrL ((sd_1 * 6364136223846793005) + 1442695040888963407) 33).toInt32) 16 = 0 then (if kRem (((kUshrL ((sd_1 * 6364136223846793005) + 1442695040888963407) 33).toInt32) / 16) 2 = 0 then (l_X6_drawn_1_sd n1 (j1 + 1) (s_X5_tick_g (kg (gT_1 0) (gT_1 1) (s_X4_turnOver_Y (gT_1 2)) (gT_1 3) (gT_1 4))) ((sd_1 * 6364136223846793005) + 1442695040888963407)) else l_X6_drawn_1_sd n1 (j1 + 1) (s_X5_tick_g (kg (gT_1 0) (gT_1 1) (gT_1 2) (s_X4_turnOver_Y (gT_1 3)) (gT_1 4))) ((sd_1 * 6364136223846793005) + 1442695040888963407)) else l_X6_drawn_1_sd n1 (j1 + 1) (s_X5_tick_g gT_1) ((sd_1 * 6364136223846793005) + 1442695040888963407)
def s_X6_drawn_sd (sd : Int64) (gN : Nat → Nat → Int32) (p0 : Int32) : Int64 := if p0 < 1 then sd else if p0 ≤ 99 then (l_X6_drawn_1_sd p0.toNatClampNeg 0 gN sd) else sd
set_option maxHeartbeats 4000000 in
set_option maxRecDepth 100000 in
theorem c_X6_drawn (l : Launch) (G : kG) (cA : Int32) (sd : Int64) (h0 : Nat) (t0 : Nat) (aN : Nat → Nat) (aT : Nat → Nat) (b0 : Nat) (s0 : Nat) (i0 : Nat) (e0 : Nat) (gN : Nat → Nat → Int32) (gT : Nat → Nat → Int32) (p0 : Int32) (hN : bW gN) : cG l G yX6_drawn cX6_drawn 4 (some .int) 4 [.ref h0, .int p0] ([(h0, .inr (6, cQ (kc cA) t0 (aN 0) (aT 0) b0 s0 i0 e0 sd))] ++ (cW aN gN ++ (cW aT gT))) (qI G (fun (r : Int32) (u : ((Nat → Nat → Int32) × Int64)) => r = r_X6_drawn sd gN p0 ∧ u.1 = s_X6_drawn_gT sd gN gT p0 ∧ u.2 = s_X6_drawn_sd sd gN p0) (fun u => [(h0, .inr (6, cQ (kc cA) t0 (aN 0) (aT 0) b0 s0 i0 e0 u.2))] ++ (cW aN gN ++ (cW aT u.1)))) := by
  refine kintro (by decide) (Nat.le_of_ble_eq_true rfl) ?_
  intro p e s m args below meth c A ls kx hK hP hD hS hA hl
  have kx : kX p s m args meth c cX6_drawn 4 (some .int) RX6 := kx
  have hx := kx.1
  have hb := kx.2.1
  have hown := kx.2.2.2.2.1
  have ht := kx.2.2.2.2.2.2
  have hl : lv_has ls 4 [(0, .ref h0), (1, .int p0)] := hl
  refine lv_iload_n hx hb dX6_drawn_0 rfl (lv_at hl 1 rfl) ?_
  refine lv_iconst (v := 1) hx hb dX6_drawn_1 (by decide) ?_
  refine lv_icmp_lt (x := p0) (y := 1) (tgt := 11) hx hb dX6_drawn_2 (by decide) (fun (c1 : p0 < 1) => ?_) (fun (c1 : ¬ (p0 < 1)) => ?_)
  · skip
    refine lv_bipush (v := (-2)) hx hb dX6_drawn_11 (by decide) ?_
    have er : r_X6_drawn sd gN p0 = (-2) := by rw [r_X6_drawn, if_pos c1]
    have e0 : s_X6_drawn_gT sd gN gT p0 = gT := by rw [s_X6_drawn_gT, if_pos c1]
    have e1 : s_X6_drawn_sd sd gN p0 = sd := by rw [s_X6_drawn_sd, if_pos c1]
    exact k_iret kx hK hP hD hS (u := (gT, sd)) rfl ⟨er.symm, e0.symm, e1.symm⟩ dX6_drawn_13
  · skip
    refine lv_iload_n hx hb dX6_drawn_5 rfl (lv_at hl 1 rfl) ?_
    refine lv_bipush (v := 99) hx hb dX6_drawn_6 (by decide) ?_
    refine lv_icmp_le (x := p0) (y := 99) (tgt := 14) hx hb dX6_drawn_8 (by decide) (fun (c2 : p0 ≤ 99) => ?_) (fun (c2 : ¬ (p0 ≤ 99)) => ?_)
    · skip
      refine lv_aload_n hx hb dX6_drawn_14 rfl (lv_at hl 0 rfl) ?_
      refine va_get (ci := 6) (v := .ref (aT 0)) (C := RX6) (T := TX6) (N := 9) hx hb ht inX6 hown hK.1 hP 0 rfl rfl 2 (by decide) (ht _ q_265) (fun _ h9 => h9) rfl dX6_drawn_15 ?_
      refine lv_aload_n hx hb dX6_drawn_18 rfl (lv_at hl 0 rfl) ?_
      refine va_get (ci := 6) (v := .ref (aN 0)) (C := RX6) (T := TX6) (N := 9) hx hb ht inX6 hown hK.1 hP 0 rfl rfl 1 (by decide) (ht _ q_264) (fun _ h9 => h9) rfl dX6_drawn_19 ?_
      refine k_callv (kRunV (As := [.ref (aN 0)]) (rest := []) kx (c_X5_copyFrom l G gT gN aT aN hN) q_439 q_436 q_31 q_437 q_438 nX5_copyFrom ⟨Nat.le_of_ble_eq_true rfl, Nat.le_of_ble_eq_true rfl⟩ hK hP hD (kCtx_in (kCtx_swap0 _ _)) 0 5 rfl rfl rfl rfl hl.1 (Nat.le_of_ble_eq_true rfl) dX6_drawn_22 ⟨Nat.zero_le _, Nat.zero_le _⟩) hP hD hS hA (kCtx_in (kCtx_swap0 _ _)) (fun _ => rfl) (fun _ H1 locs1 hw hP1 hD1 hS1 => ?_)
      have hP2 : va_P G.1 vwCl ([(h0, .inr (6, cQ (kc cA) t0 (aN 0) (aT 0) b0 s0 i0 e0 sd))] ++ (cW aN gN ++ (cW aT gN))) H1 := hP1
      have hD3 : va_D A ([(h0, .inr (6, cQ (kc cA) t0 (aN 0) (aT 0) b0 s0 i0 e0 sd))] ++ (cW aN gN ++ (cW aT gN))) := hD1
      refine lv_iconst (v := 0) hx hb dX6_drawn_25 (by decide) ?_
      refine lv_istore_n (lv' := [(2, .int 0), (0, .ref h0), (1, .int p0)]) hx hb dX6_drawn_26 rfl hl (by decide) rfl (fun ls4 hl4 => ?_)
      have lp1 : ∀ (n1 j1 : Nat) (gT_1 : Nat → Nat → Int32) (sd_1 : Int64), j1 + n1 = p0.toNatClampNeg → (hr_1 : r_X6_drawn sd gN p0 = l_X6_drawn_1_r gN n1 j1 gT_1 sd_1) → (hgT_1 : s_X6_drawn_gT sd gN gT p0 = l_X6_drawn_1_gT n1 j1 gT_1 sd_1) → (hsd_1 : s_X6_drawn_sd sd gN p0 = l_X6_drawn_1_sd n1 j1 gT_1 sd_1) → (hb1 : bW gT_1) → ∀ (H : Heap) (locs : List Loc) (ls : Array Slot), va_P G.1 vwCl ([(h0, .inr (6, cQ (kc cA) t0 (aN 0) (aT 0) b0 s0 i0 e0 sd_1))] ++ (cW aN gN ++ (cW aT gT_1))) H → va_D A ([(h0, .inr (6, cQ (kc cA) t0 (aN 0) (aT 0) b0 s0 i0 e0 sd_1))] ++ (cW aN gN ++ (cW aT gT_1))) → va_S A s.heap H locs → lv_has ls 4 [(0, .ref h0), (1, .int p0), (2, .int (nI j1))] → W p l e (kr 4) s m args below meth c H locs 0 0 (MQ below (qI G (fun (r : Int32) (u : ((Nat → Nat → Int32) × Int64)) => r = r_X6_drawn sd gN p0 ∧ u.1 = s_X6_drawn_gT sd gN gT p0 ∧ u.2 = s_X6_drawn_sd sd gN p0) (fun u => [(h0, .inr (6, cQ (kc cA) t0 (aN 0) (aT 0) b0 s0 i0 e0 u.2))] ++ (cW aN gN ++ (cW aT u.1))) A) args s 0 0 A) (F0 m 27 ls []) := by
        intro n1
        induction n1 with
        | zero =>
          intro j1 gT_1 sd_1 hj1 hr_1 hgT_1 hsd_1 hb1 H5 locs5 ls5 hP5 hD5 hS5 hl5
          refine lv_iload_n hx hb dX6_drawn_27 rfl (lv_at hl5 2 rfl) ?_
          refine lv_iload_n hx hb dX6_drawn_28 rfl (lv_at hl5 1 rfl) ?_
          refine lv_icmp_ge (x := nI j1) (y := p0) (tgt := 93) hx hb dX6_drawn_29 (by decide) (fun (c4 : p0 ≤ nI j1) => ?_) (fun (c4 : ¬ (p0 ≤ nI j1)) => absurd (krun_z hj1) c4)
          refine lv_aload_n hx hb dX6_drawn_93 rfl (lv_at hl5 0 rfl) ?_
          refine va_get (ci := 6) (v := .ref (aT 0)) (C := RX6) (T := TX6) (N := 9) hx hb ht inX6 hown hK.1 hP5 0 rfl rfl 2 (by decide) (ht _ q_265) (fun _ h9 => h9) rfl dX6_drawn_94 ?_
          refine va_get (ci := 5) (v := .int (gT_1 4 2)) (C := RX5) (T := TX5) (N := 8) hx hb ht inX5 hown hK.1 hP5 10 rfl rfl 6 (by decide) (ht _ q_221) (fun _ h9 => h9) rfl dX6_drawn_97 ?_
          refine lv_aload_n hx hb dX6_drawn_100 rfl (lv_at hl5 0 rfl) ?_
          refine va_get (ci := 6) (v := .ref (aN 0)) (C := RX6) (T := TX6) (N := 9) hx hb ht inX6 hown hK.1 hP5 0 rfl rfl 1 (by decide) (ht _ q_264) (fun _ h9 => h9) rfl dX6_drawn_101 ?_
          refine va_get (ci := 5) (v := .int (gN 4 2)) (C := RX5) (T := TX5) (N := 8) hx hb ht inX5 hown hK.1 hP5 1 rfl rfl 6 (by decide) (ht _ q_221) (fun _ h9 => h9) rfl dX6_drawn_104 ?_
          refine lv_isub hx hb dX6_drawn_107 ?_
          have er : r_X6_drawn sd gN p0 = (gT_1 4 2) - (gN 4 2) := by rw [hr_1, l_X6_drawn_1_r]
          have e0 : s_X6_drawn_gT sd gN gT p0 = gT_1 := by rw [hgT_1, l_X6_drawn_1_gT]
          have e1 : s_X6_drawn_sd sd gN p0 = sd_1 := by rw [hsd_1, l_X6_drawn_1_sd]
          exact k_iret kx hK hP5 hD5 hS5 (u := (gT_1, sd_1)) rfl ⟨er.symm, e0.symm, e1.symm⟩ dX6_drawn_108
        | succ n1 ih1 =>
          intro j1 gT_1 sd_1 hj1 hr_1 hgT_1 hsd_1 hb1 H5 locs5 ls5 hP5 hD5 hS5 hl5
          refine lv_iload_n hx hb dX6_drawn_27 rfl (lv_at hl5 2 rfl) ?_
          refine lv_iload_n hx hb dX6_drawn_28 rfl (lv_at hl5 1 rfl) ?_
          refine lv_icmp_ge (x := nI j1) (y := p0) (tgt := 93) hx hb dX6_drawn_29 (by decide) (fun (c5 : p0 ≤ nI j1) => absurd c5 (krun_s hj1)) (fun (c5 : ¬ (p0 ≤ nI j1)) => ?_)
          refine lv_aload_n hx hb dX6_drawn_32 rfl (lv_at hl5 0 rfl) ?_
          refine lv_aload_n hx hb dX6_drawn_33 rfl (lv_at hl5 0 rfl) ?_
          refine va_get (ci := 6) (v := .long sd_1) (C := RX6) (T := TX6) (N := 9) hx hb ht inX6 hown hK.1 hP5 0 rfl rfl 8 (by decide) (ht _ q_271) (fun _ h9 => h9) rfl dX6_drawn_34 ?_
          refine lv_ldc2 (v := 6364136223846793005) hx hb hown (ht _ q_643) dX6_drawn_37 ?_
          refine lv_lmul hx hb dX6_drawn_40 ?_
          refine lv_ldc2 (v := 1442695040888963407) hx hb hown (ht _ q_644) dX6_drawn_41 ?_
          refine lv_ladd hx hb dX6_drawn_44 ?_
          refine va_put (ci := 6) (v := .long ((sd_1 * 6364136223846793005) + 1442695040888963407)) (ty := .long) (C := RX6) (T := TX6) (N := 9) hx hb ht inX6 tyX6 tyX6_ok nmX6 hown hK.1 hP5 hD5 hS5 0 rfl rfl 8 (by decide) (ht _ q_271) (fun _ h9 => h9) rfl (by decide +kernel) rfl rfl (Nat.le_of_ble_eq_true rfl) dX6_drawn_45 (fun H6 locs6 hP6 hD6 hS6 => ?_)
          have hP7 : va_P G.1 vwCl ([(h0, .inr (6, cQ (kc cA) t0 (aN 0) (aT 0) b0 s0 i0 e0 ((sd_1 * 6364136223846793005) + 1442695040888963407)))] ++ (cW aN gN ++ (cW aT gT_1))) H6 := hP6
          have hD8 : va_D A ([(h0, .inr (6, cQ (kc cA) t0 (aN 0) (aT 0) b0 s0 i0 e0 ((sd_1 * 6364136223846793005) + 1442695040888963407)))] ++ (cW aN gN ++ (cW aT gT_1))) := hD6
          refine lv_aload_n hx hb dX6_drawn_48 rfl (lv_at hl5 0 rfl) ?_
          refine va_get (ci := 6) (v := .long ((sd_1 * 6364136223846793005) + 1442695040888963407)) (C := RX6) (T := TX6) (N := 9) hx hb ht inX6 hown hK.1 hP7 0 rfl rfl 8 (by decide) (ht _ q_271) (fun _ h9 => h9) rfl dX6_drawn_49 ?_
          refine lv_bipush (v := 33) hx hb dX6_drawn_52 (by decide) ?_
          refine lv_lushr (v := kUshrL ((sd_1 * 6364136223846793005) + 1442695040888963407) 33) hx hb dX6_drawn_54 rfl ?_
          refine lv_l2i (v := (kUshrL ((sd_1 * 6364136223846793005) + 1442695040888963407) 33).toInt32) hx hb dX6_drawn_55 rfl ?_
          refine lv_istore_n (lv' := [(3, .int ((kUshrL ((sd_1 * 6364136223846793005) + 1442695040888963407) 33).toInt32)), (0, .ref h0), (1, .int p0), (2, .int (nI j1))]) hx hb dX6_drawn_56 rfl hl5 (by decide) rfl (fun ls9 hl9 => ?_)
          refine lv_iload_n hx hb dX6_drawn_57 rfl (lv_at hl9 0 rfl) ?_
          refine lv_bipush (v := 16) hx hb dX6_drawn_58 (by decide) ?_
          refine lv_irem hx hb dX6_drawn_60 (by decide) ?_
          refine k_top (y := kRem ((kUshrL ((sd_1 * 6364136223846793005) + 1442695040888963407) 33).toInt32) 16) rfl ?_
          refine lv_if_ne (x := kRem ((kUshrL ((sd_1 * 6364136223846793005) + 1442695040888963407) 33).toInt32) 16) (tgt := 80) hx hb dX6_drawn_61 (by decide) (fun (c6 : ¬ (kRem ((kUshrL ((sd_1 * 6364136223846793005) + 1442695040888963407) 33).toInt32) 16 = 0)) => ?_) (fun (c6 : kRem ((kUshrL ((sd_1 * 6364136223846793005) + 1442695040888963407) 33).toInt32) 16 = 0) => ?_)
          · skip
            refine lv_aload_n hx hb dX6_drawn_80 rfl (lv_at hl9 1 rfl) ?_
            refine va_get (ci := 6) (v := .ref (aT 0)) (C := RX6) (T := TX6) (N := 9) hx hb ht inX6 hown hK.1 hP7 0 rfl rfl 2 (by decide) (ht _ q_265) (fun _ h9 => h9) rfl dX6_drawn_81 ?_
            refine k_callv (kRunV (As := []) (rest := []) kx (c_X5_tick l G gT_1 aT hb1) q_359 q_450 q_31 q_357 q_358 nX5_tick ⟨Nat.le_of_ble_eq_true rfl, Nat.le_of_ble_eq_true rfl⟩ hK hP7 hD8 (kCtx_in (kCtx_end _ _)) 0 5 rfl rfl rfl rfl hl9.1 (Nat.le_of_ble_eq_true rfl) dX6_drawn_84 ⟨Nat.zero_le _, Nat.zero_le _⟩) hP7 hD8 hS6 hA (kCtx_in (kCtx_end _ _)) (fun _ => rfl) (fun g8 H10 locs10 hw hP10 hD10 hS10 => ?_)
            have hg8 : s_X5_tick_g gT_1 = g8 := (show g8 = s_X5_tick_g gT_1 from hw).symm
            have hP11 : va_P G.1 vwCl ([(h0, .inr (6, cQ (kc cA) t0 (aN 0) (aT 0) b0 s0 i0 e0 ((sd_1 * 6364136223846793005) + 1442695040888963407)))] ++ (cW aN gN ++ (cW aT g8))) H10 := hP10
            have hD12 : va_D A ([(h0, .inr (6, cQ (kc cA) t0 (aN 0) (aT 0) b0 s0 i0 e0 ((sd_1 * 6364136223846793005) + 1442695040888963407)))] ++ (cW aN gN ++ (cW aT g8))) := hD10
            refine lv_iinc (v := nI (j1 + 1)) (lv' := [(2, .int (nI (j1 + 1))), (3, .int ((kUshrL ((sd_1 * 6364136223846793005) + 1442695040888963407) 33).toInt32)), (0, .ref h0), (1, .int p0)]) hx hb dX6_drawn_87 hl9 (k := 3) rfl (nI_1 j1) (by decide) rfl (fun ls13 hl13 => ?_)
            refine lv_goto (tgt := 27) hx hb dX6_drawn_90 (by decide) ?_
            subst hg8
            have gr : r_X6_drawn sd gN p0 = l_X6_drawn_1_r gN n1 (j1 + 1) (s_X5_tick_g gT_1) ((sd_1 * 6364136223846793005) + 1442695040888963407) := by rw [hr_1, l_X6_drawn_1_r, if_neg c6]
            have ggT : s_X6_drawn_gT sd gN gT p0 = l_X6_drawn_1_gT n1 (j1 + 1) (s_X5_tick_g gT_1) ((sd_1 * 6364136223846793005) + 1442695040888963407) := by rw [hgT_1, l_X6_drawn_1_gT, if_neg c6]
            have gsd : s_X6_drawn_sd sd gN p0 = l_X6_drawn_1_sd n1 (j1 + 1) (s_X5_tick_g gT_1) ((sd_1 * 6364136223846793005) + 1442695040888963407) := by rw [hsd_1, l_X6_drawn_1_sd, if_neg c6]
            exact ih1 (j1 + 1) (s_X5_tick_g gT_1) ((sd_1 * 6364136223846793005) + 1442695040888963407) (by omega) gr ggT gsd (b_s_X5_tick_g gT_1 hb1) _ _ _ hP11 hD12 hS10 (lv_sub hl13 [2, 3, 0] rfl)
          · skip
            refine lv_aload_n hx hb dX6_drawn_64 rfl (lv_at hl9 1 rfl) ?_
            refine va_get (ci := 6) (v := .ref (aT 0)) (C := RX6) (T := TX6) (N := 9) hx hb ht inX6 hown hK.1 hP7 0 rfl rfl 2 (by decide) (ht _ q_265) (fun _ h9 => h9) rfl dX6_drawn_65 ?_
            refine lv_iload_n hx hb dX6_drawn_68 rfl (lv_at hl9 0 rfl) ?_
            refine lv_bipush (v := 16) hx hb dX6_drawn_69 (by decide) ?_
            refine lv_idiv hx hb dX6_drawn_71 (by decide) ?_
            refine lv_iconst (v := 2) hx hb dX6_drawn_72 (by decide) ?_
            refine lv_irem hx hb dX6_drawn_73 (by decide) ?_
            refine k_top (y := kRem (((kUshrL ((sd_1 * 6364136223846793005) + 1442695040888963407) 33).toInt32) / 16) 2) rfl ?_
            by_cases c9 : kRem (((kUshrL ((sd_1 * 6364136223846793005) + 1442695040888963407) 33).toInt32) / 16) 2 = 0
            · skip
              refine k_top (y := 0) c9 ?_
              refine k_callr (kRunV (As := [.int 0]) (rest := []) kx (c_X5_wayOf_0 l G (gT_1 4) (aT 0) (aT 1) (aT 3) (aT 5) (aT 7)) q_347 q_484 q_31 q_345 q_346 nX5_wayOf ⟨Nat.le_of_ble_eq_true rfl, Nat.le_of_ble_eq_true rfl⟩ hK hP7 hD8 (kCtx_places _ _ [10] rfl rfl) 0 5 rfl rfl rfl rfl hl9.1 (Nat.le_of_ble_eq_true rfl) dX6_drawn_74 ⟨Nat.zero_le _, Nat.zero_le _⟩) hP7 hD8 hS6 hA (kCtx_places _ _ [10] rfl rfl) (fun _ => rfl) (fun r10 _ H14 locs14 hw hP14 hD14 hS14 => ?_)
              have hr10 : aT 5 = r10 := (show r10 = aT 5 from hw).symm
              subst hr10
              have hP15 : va_P G.1 vwCl ([(h0, .inr (6, cQ (kc cA) t0 (aN 0) (aT 0) b0 s0 i0 e0 ((sd_1 * 6364136223846793005) + 1442695040888963407)))] ++ (cW aN gN ++ (cW aT gT_1))) H14 := hP14
              have hD16 : va_D A ([(h0, .inr (6, cQ (kc cA) t0 (aN 0) (aT 0) b0 s0 i0 e0 ((sd_1 * 6364136223846793005) + 1442695040888963407)))] ++ (cW aN gN ++ (cW aT gT_1))) := hD14
              refine k_callv (kRunV (As := []) (rest := []) kx (c_X4_turnOver l G (gT_1 2) (aT 5) (aT 6)) q_351 q_513 q_34 q_349 q_350 nX4_turnOver ⟨Nat.le_of_ble_eq_true rfl, Nat.le_of_ble_eq_true rfl⟩ hK hP15 hD16 (kCtx_places _ _ [15, 16] rfl rfl) 0 4 rfl rfl rfl rfl hl9.1 (Nat.le_of_ble_eq_true rfl) dX6_drawn_77 ⟨Nat.zero_le _, Nat.zero_le _⟩) hP15 hD16 hS14 hA (kCtx_places _ _ [15, 16] rfl rfl) (fun _ => rfl) (fun F12 H17 locs17 hw hP17 hD17 hS17 => ?_)
              have hF12 : s_X4_turnOver_Y (gT_1 2) = F12 := (show F12 = s_X4_turnOver_Y (gT_1 2) from hw).symm
              have hP18 : va_P G.1 vwCl ([(h0, .inr (6, cQ (kc cA) t0 (aN 0) (aT 0) b0 s0 i0 e0 ((sd_1 * 6364136223846793005) + 1442695040888963407)))] ++ (cW aN gN ++ (cW aT (kg (gT_1 0) (gT_1 1) F12 (gT_1 3) (gT_1 4))))) H17 := hP17
              have hD19 : va_D A ([(h0, .inr (6, cQ (kc cA) t0 (aN 0) (aT 0) b0 s0 i0 e0 ((sd_1 * 6364136223846793005) + 1442695040888963407)))] ++ (cW aN gN ++ (cW aT (kg (gT_1 0) (gT_1 1) F12 (gT_1 3) (gT_1 4))))) := hD17
              refine lv_aload_n hx hb dX6_drawn_80 rfl (lv_at hl9 1 rfl) ?_
              refine va_get (ci := 6) (v := .ref (aT 0)) (C := RX6) (T := TX6) (N := 9) hx hb ht inX6 hown hK.1 hP18 0 rfl rfl 2 (by decide) (ht _ q_265) (fun _ h9 => h9) rfl dX6_drawn_81 ?_
              refine k_callv (kRunV (As := []) (rest := []) kx (c_X5_tick l G (kg (gT_1 0) (gT_1 1) F12 (gT_1 3) (gT_1 4)) aT (⟨hb1.1, hb1.2.1, (show bY F12 from by rw [← hF12]; exact (b_s_X4_turnOver_Y (gT_1 2) hb1.2.2.1)), hb1.2.2.2⟩)) q_359 q_450 q_31 q_357 q_358 nX5_tick ⟨Nat.le_of_ble_eq_true rfl, Nat.le_of_ble_eq_true rfl⟩ hK hP18 hD19 (kCtx_in (kCtx_end _ _)) 0 5 rfl rfl rfl rfl hl9.1 (Nat.le_of_ble_eq_true rfl) dX6_drawn_84 ⟨Nat.zero_le _, Nat.zero_le _⟩) hP18 hD19 hS17 hA (kCtx_in (kCtx_end _ _)) (fun _ => rfl) (fun g14 H20 locs20 hw hP20 hD20 hS20 => ?_)
              have hg14 : s_X5_tick_g (kg (gT_1 0) (gT_1 1) F12 (gT_1 3) (gT_1 4)) = g14 := (show g14 = s_X5_tick_g (kg (gT_1 0) (gT_1 1) F12 (gT_1 3) (gT_1 4)) from hw).symm
              have hP21 : va_P G.1 vwCl ([(h0, .inr (6, cQ (kc cA) t0 (aN 0) (aT 0) b0 s0 i0 e0 ((sd_1 * 6364136223846793005) + 1442695040888963407)))] ++ (cW aN gN ++ (cW aT g14))) H20 := hP20
              have hD22 : va_D A ([(h0, .inr (6, cQ (kc cA) t0 (aN 0) (aT 0) b0 s0 i0 e0 ((sd_1 * 6364136223846793005) + 1442695040888963407)))] ++ (cW aN gN ++ (cW aT g14))) := hD20
              refine lv_iinc (v := nI (j1 + 1)) (lv' := [(2, .int (nI (j1 + 1))), (3, .int ((kUshrL ((sd_1 * 6364136223846793005) + 1442695040888963407) 33).toInt32)), (0, .ref h0), (1, .int p0)]) hx hb dX6_drawn_87 hl9 (k := 3) rfl (nI_1 j1) (by decide) rfl (fun ls23 hl23 => ?_)
              refine lv_goto (tgt := 27) hx hb dX6_drawn_90 (by decide) ?_
              subst hF12
              subst hg14
              have gr : r_X6_drawn sd gN p0 = l_X6_drawn_1_r gN n1 (j1 + 1) (s_X5_tick_g (kg (gT_1 0) (gT_1 1) (s_X4_turnOver_Y (gT_1 2)) (gT_1 3) (gT_1 4))) ((sd_1 * 6364136223846793005) + 1442695040888963407) := by rw [hr_1, l_X6_drawn_1_r, if_pos c6, if_pos c9]
              have ggT : s_X6_drawn_gT sd gN gT p0 = l_X6_drawn_1_gT n1 (j1 + 1) (s_X5_tick_g (kg (gT_1 0) (gT_1 1) (s_X4_turnOver_Y (gT_1 2)) (gT_1 3) (gT_1 4))) ((sd_1 * 6364136223846793005) + 1442695040888963407) := by rw [hgT_1, l_X6_drawn_1_gT, if_pos c6, if_pos c9]
              have gsd : s_X6_drawn_sd sd gN p0 = l_X6_drawn_1_sd n1 (j1 + 1) (s_X5_tick_g (kg (gT_1 0) (gT_1 1) (s_X4_turnOver_Y (gT_1 2)) (gT_1 3) (gT_1 4))) ((sd_1 * 6364136223846793005) + 1442695040888963407) := by rw [hsd_1, l_X6_drawn_1_sd, if_pos c6, if_pos c9]
              exact ih1 (j1 + 1) (s_X5_tick_g (kg (gT_1 0) (gT_1 1) (s_X4_turnOver_Y (gT_1 2)) (gT_1 3) (gT_1 4))) ((sd_1 * 6364136223846793005) + 1442695040888963407) (by omega) gr ggT gsd (b_s_X5_tick_g (kg (gT_1 0) (gT_1 1) (s_X4_turnOver_Y (gT_1 2)) (gT_1 3) (gT_1 4)) (⟨hb1.1, hb1.2.1, (b_s_X4_turnOver_Y (gT_1 2) hb1.2.2.1), hb1.2.2.2⟩)) _ _ _ hP21 hD22 hS20 (lv_sub hl23 [2, 3, 0] rfl)
            · skip
              refine k_callr (kRunV (As := [.int (kRem (((kUshrL ((sd_1 * 6364136223846793005) + 1442695040888963407) 33).toInt32) / 16) 2)]) (rest := []) kx (c_X5_wayOf_n l G (gT_1 4) (aT 0) (aT 1) (aT 3) (aT 5) (aT 7) (kRem (((kUshrL ((sd_1 * 6364136223846793005) + 1442695040888963407) 33).toInt32) / 16) 2) c9) q_347 q_484 q_31 q_345 q_346 nX5_wayOf ⟨Nat.le_of_ble_eq_true rfl, Nat.le_of_ble_eq_true rfl⟩ hK hP7 hD8 (kCtx_places _ _ [10] rfl rfl) 0 5 rfl rfl rfl rfl hl9.1 (Nat.le_of_ble_eq_true rfl) dX6_drawn_74 ⟨Nat.zero_le _, Nat.zero_le _⟩) hP7 hD8 hS6 hA (kCtx_places _ _ [10] rfl rfl) (fun _ => rfl) (fun r15 _ H24 locs24 hw hP24 hD24 hS24 => ?_)
              have hr15 : aT 7 = r15 := (show r15 = aT 7 from hw).symm
              subst hr15
              have hP25 : va_P G.1 vwCl ([(h0, .inr (6, cQ (kc cA) t0 (aN 0) (aT 0) b0 s0 i0 e0 ((sd_1 * 6364136223846793005) + 1442695040888963407)))] ++ (cW aN gN ++ (cW aT gT_1))) H24 := hP24
              have hD26 : va_D A ([(h0, .inr (6, cQ (kc cA) t0 (aN 0) (aT 0) b0 s0 i0 e0 ((sd_1 * 6364136223846793005) + 1442695040888963407)))] ++ (cW aN gN ++ (cW aT gT_1))) := hD24
              refine k_callv (kRunV (As := []) (rest := []) kx (c_X4_turnOver l G (gT_1 3) (aT 7) (aT 8)) q_351 q_513 q_34 q_349 q_350 nX4_turnOver ⟨Nat.le_of_ble_eq_true rfl, Nat.le_of_ble_eq_true rfl⟩ hK hP25 hD26 (kCtx_places _ _ [17, 18] rfl rfl) 0 4 rfl rfl rfl rfl hl9.1 (Nat.le_of_ble_eq_true rfl) dX6_drawn_77 ⟨Nat.zero_le _, Nat.zero_le _⟩) hP25 hD26 hS24 hA (kCtx_places _ _ [17, 18] rfl rfl) (fun _ => rfl) (fun F17 H27 locs27 hw hP27 hD27 hS27 => ?_)
              have hF17 : s_X4_turnOver_Y (gT_1 3) = F17 := (show F17 = s_X4_turnOver_Y (gT_1 3) from hw).symm
              have hP28 : va_P G.1 vwCl ([(h0, .inr (6, cQ (kc cA) t0 (aN 0) (aT 0) b0 s0 i0 e0 ((sd_1 * 6364136223846793005) + 1442695040888963407)))] ++ (cW aN gN ++ (cW aT (kg (gT_1 0) (gT_1 1) (gT_1 2) F17 (gT_1 4))))) H27 := hP27
              have hD29 : va_D A ([(h0, .inr (6, cQ (kc cA) t0 (aN 0) (aT 0) b0 s0 i0 e0 ((sd_1 * 6364136223846793005) + 1442695040888963407)))] ++ (cW aN gN ++ (cW aT (kg (gT_1 0) (gT_1 1) (gT_1 2) F17 (gT_1 4))))) := hD27
              refine lv_aload_n hx hb dX6_drawn_80 rfl (lv_at hl9 1 rfl) ?_
              refine va_get (ci := 6) (v := .ref (aT 0)) (C := RX6) (T := TX6) (N := 9) hx hb ht inX6 hown hK.1 hP28 0 rfl rfl 2 (by decide) (ht _ q_265) (fun _ h9 => h9) rfl dX6_drawn_81 ?_
              refine k_callv (kRunV (As := []) (rest := []) kx (c_X5_tick l G (kg (gT_1 0) (gT_1 1) (gT_1 2) F17 (gT_1 4)) aT (⟨hb1.1, hb1.2.1, hb1.2.2.1, (show bY F17 from by rw [← hF17]; exact (b_s_X4_turnOver_Y (gT_1 3) hb1.2.2.2))⟩)) q_359 q_450 q_31 q_357 q_358 nX5_tick ⟨Nat.le_of_ble_eq_true rfl, Nat.le_of_ble_eq_true rfl⟩ hK hP28 hD29 (kCtx_in (kCtx_end _ _)) 0 5 rfl rfl rfl rfl hl9.1 (Nat.le_of_ble_eq_true rfl) dX6_drawn_84 ⟨Nat.zero_le _, Nat.zero_le _⟩) hP28 hD29 hS27 hA (kCtx_in (kCtx_end _ _)) (fun _ => rfl) (fun g19 H30 locs30 hw hP30 hD30 hS30 => ?_)
              have hg19 : s_X5_tick_g (kg (gT_1 0) (gT_1 1) (gT_1 2) F17 (gT_1 4)) = g19 := (show g19 = s_X5_tick_g (kg (gT_1 0) (gT_1 1) (gT_1 2) F17 (gT_1 4)) from hw).symm
              have hP31 : va_P G.1 vwCl ([(h0, .inr (6, cQ (kc cA) t0 (aN 0) (aT 0) b0 s0 i0 e0 ((sd_1 * 6364136223846793005) + 1442695040888963407)))] ++ (cW aN gN ++ (cW aT g19))) H30 := hP30
              have hD32 : va_D A ([(h0, .inr (6, cQ (kc cA) t0 (aN 0) (aT 0) b0 s0 i0 e0 ((sd_1 * 6364136223846793005) + 1442695040888963407)))] ++ (cW aN gN ++ (cW aT g19))) := hD30
              refine lv_iinc (v := nI (j1 + 1)) (lv' := [(2, .int (nI (j1 + 1))), (3, .int ((kUshrL ((sd_1 * 6364136223846793005) + 1442695040888963407) 33).toInt32)), (0, .ref h0), (1, .int p0)]) hx hb dX6_drawn_87 hl9 (k := 3) rfl (nI_1 j1) (by decide) rfl (fun ls33 hl33 => ?_)
              refine lv_goto (tgt := 27) hx hb dX6_drawn_90 (by decide) ?_
              subst hF17
              subst hg19
              have gr : r_X6_drawn sd gN p0 = l_X6_drawn_1_r gN n1 (j1 + 1) (s_X5_tick_g (kg (gT_1 0) (gT_1 1) (gT_1 2) (s_X4_turnOver_Y (gT_1 3)) (gT_1 4))) ((sd_1 * 6364136223846793005) + 1442695040888963407) := by rw [hr_1, l_X6_drawn_1_r, if_pos c6, if_neg c9]
              have ggT : s_X6_drawn_gT sd gN gT p0 = l_X6_drawn_1_gT n1 (j1 + 1) (s_X5_tick_g (kg (gT_1 0) (gT_1 1) (gT_1 2) (s_X4_turnOver_Y (gT_1 3)) (gT_1 4))) ((sd_1 * 6364136223846793005) + 1442695040888963407) := by rw [hgT_1, l_X6_drawn_1_gT, if_pos c6, if_neg c9]
              have gsd : s_X6_drawn_sd sd gN p0 = l_X6_drawn_1_sd n1 (j1 + 1) (s_X5_tick_g (kg (gT_1 0) (gT_1 1) (gT_1 2) (s_X4_turnOver_Y (gT_1 3)) (gT_1 4))) ((sd_1 * 6364136223846793005) + 1442695040888963407) := by rw [hsd_1, l_X6_drawn_1_sd, if_pos c6, if_neg c9]
              exact ih1 (j1 + 1) (s_X5_tick_g (kg (gT_1 0) (gT_1 1) (gT_1 2) (s_X4_turnOver_Y (gT_1 3)) (gT_1 4))) ((sd_1 * 6364136223846793005) + 1442695040888963407) (by omega) gr ggT gsd (b_s_X5_tick_g (kg (gT_1 0) (gT_1 1) (gT_1 2) (s_X4_turnOver_Y (gT_1 3)) (gT_1 4)) (⟨hb1.1, hb1.2.1, hb1.2.2.1, (b_s_X4_turnOver_Y (gT_1 3) hb1.2.2.2)⟩)) _ _ _ hP31 hD32 hS30 (lv_sub hl33 [2, 3, 0] rfl)
      have gr : r_X6_drawn sd gN p0 = l_X6_drawn_1_r gN p0.toNatClampNeg 0 gN sd := by rw [r_X6_drawn, if_neg c1, if_pos c2]
      have ggT : s_X6_drawn_gT sd gN gT p0 = l_X6_drawn_1_gT p0.toNatClampNeg 0 gN sd := by rw [s_X6_drawn_gT, if_neg c1, if_pos c2]
      have gsd : s_X6_drawn_sd sd gN p0 = l_X6_drawn_1_sd p0.toNatClampNeg 0 gN sd := by rw [s_X6_drawn_sd, if_neg c1, if_pos c2]
      exact lp1 p0.toNatClampNeg 0 gN sd (by omega) gr ggT gsd hN _ _ _ hP2 hD3 hS1 (lv_sub hl4 [1, 2, 0] rfl)
    · skip
      refine lv_bipush (v := (-2)) hx hb dX6_drawn_11 (by decide) ?_
      have er : r_X6_drawn sd gN p0 = (-2) := by rw [r_X6_drawn, if_neg c1, if_neg c2]
      have e0 : s_X6_drawn_gT sd gN gT p0 = gT := by rw [s_X6_drawn_gT, if_neg c1, if_neg c2]
      have e1 : s_X6_drawn_sd sd gN p0 = sd := by rw [s_X6_drawn_sd, if_neg c1, if_neg c2]
      exact k_iret kx hK hP hD hS (u := (gT, sd)) rfl ⟨er.symm, e0.symm, e1.symm⟩ dX6_drawn_13
