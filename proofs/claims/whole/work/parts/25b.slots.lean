/-- the two slots in a row -/
abbrev kSO (aS0 aS1 : Nat → Nat) : Nat → Option Nat := fun i => if i = 0 then some (aS0 0) else some (aS1 0)
theorem knlt2 {p0 : Int32} (h : ¬ p0 < 0) (h0 : ¬ p0 = 0) (h1 : ¬ p0 = 1) : ¬ p0 < 2 := by
  intro h2
  have a := Int32.lt_iff_toInt_lt.mp h2
  have b : ¬ p0.toInt < (0 : Int32).toInt := fun q => h (Int32.lt_iff_toInt_lt.mpr q)
  have c : p0.toInt ≠ (0 : Int32).toInt := fun q => h0 (Int32.toInt_inj.mp q)
  have d : p0.toInt ≠ (1 : Int32).toInt := fun q => h1 (Int32.toInt_inj.mp q)
  simp at a b c d
  omega
theorem kfp_ne (L : Nat) (sg : Nat → Int32) (hL : L < 7) : ∀ (n j : Nat) (ev : Int32), j + n = L → l_X3_faultPlace_1_r L sg n j ev ≠ -9
  | 0, j, ev, h => by
    rw [l_X3_faultPlace_1_r]
    have h7 : nI L < 7 := nI_lt (b := 7) hL (by decide)
    have hp : ¬ nI L = -9 := fun q => absurd (nI_pos (n := L) (by omega)) (by rw [q]; decide)
    repeat' split
    all_goals first | exact hp | (intro q; contradiction)
  | n + 1, j, ev, h => by
    rw [l_X3_faultPlace_1_r]
    have hp : ¬ nI j = -9 := fun q => absurd (nI_pos (n := j) (by omega)) (by rw [q]; decide)
    repeat' split
    all_goals first | exact hp | exact kfp_ne L sg hL n (j + 1) _ (by omega)
theorem kfp7 {L : Nat} {sg : Nat → Int32} (h : r_X3_faultPlace L sg = -9) : 7 ≤ L := by
  rcases Nat.lt_or_ge L 7 with q | q
  · exact absurd h (kfp_ne L sg q L 0 0 (by omega))
  · exact q
set_option maxHeartbeats 4000000 in
set_option maxRecDepth 100000 in
theorem c_X6_keep_0 (l : Launch) (G : kG) (cA : Int32) (sd : Int64) (h0 : Nat) (t0 : Nat) (aN : Nat → Nat) (aT : Nat → Nat) (b0 : Nat) (s0 : Nat) (i0 : Nat) (e0 : Nat) (aS0 : Nat → Nat) (aS1 : Nat → Nat) (ik : Nat → Int32) (gN : Nat → Nat → Int32) (gS0 : Nat → Nat → Int32) (gS1 : Nat → Nat → Int32) (hN : bW gN) : cG l G yX6_keep cX6_keep 2 (some .int) 3 [.ref h0, .int 0] ([(h0, .inr (6, cQ (kc cA) t0 (aN 0) (aT 0) b0 s0 i0 e0 sd)), (s0, .inl (G.2.2.2, 2, .inr (.inr (.inr (.inr (kSO aS0 aS1)))))), (i0, .inl (G.2.2.1, 2, .inl ik))] ++ (cW aN gN ++ (cW aS0 gS0 ++ (cW aS1 gS1)))) (qI G (fun (r : Int32) (_ : Unit) => r = gN 4 0) (fun _ => [(h0, .inr (6, cQ (kc cA) t0 (aN 0) (aT 0) b0 s0 i0 e0 sd)), (s0, .inl (G.2.2.2, 2, .inr (.inr (.inr (.inr (kSO aS0 aS1)))))), (i0, .inl (G.2.2.1, 2, .inl (upd ik 0 1)))] ++ (cW aN gN ++ (cW aS0 gN ++ (cW aS1 gS1))))) := by
  refine kintro (by decide) (Nat.le_of_ble_eq_true rfl) ?_
  intro p e s m args below meth c A ls kx hK hP hD hS hA hl
  have kx : kX p s m args meth c cX6_keep 2 (some .int) RX6 := kx
  have hx := kx.1
  have hb := kx.2.1
  have hown := kx.2.2.2.2.1
  have ht := kx.2.2.2.2.2.2
  have hl : lv_has ls 2 [(0, .ref h0), (1, .int 0)] := hl
  refine lv_iload_n hx hb dX6_keep_0 rfl (lv_at hl 1 rfl) ?_
  refine lv_if_lt (x := 0) (tgt := 9) hx hb dX6_keep_1 (by decide) (fun (c1 : 0 < 0) => absurd c1 (by decide)) (fun (c1 : ¬ (0 < 0)) => ?_)
  refine lv_iload_n hx hb dX6_keep_4 rfl (lv_at hl 1 rfl) ?_
  refine lv_iconst (v := 2) hx hb dX6_keep_5 (by decide) ?_
  refine lv_icmp_lt (x := 0) (y := 2) (tgt := 11) hx hb dX6_keep_6 (by decide) (fun (c2 : 0 < 2) => ?_) (fun (c2 : ¬ (0 < 2)) => absurd (by decide) c2)
  refine lv_aload_n hx hb dX6_keep_11 rfl (lv_at hl 0 rfl) ?_
  refine va_get (ci := 6) (v := .ref s0) (C := RX6) (T := TX6) (N := 9) hx hb ht inX6 hown hK.1 hP 0 rfl rfl 5 (by decide) (ht _ q_268) (fun _ h9 => h9) rfl dX6_keep_12 ?_
  refine lv_iload_n hx hb dX6_keep_15 rfl (lv_at hl 1 rfl) ?_
  refine k_aald (v := aS0 0) kx hK hP 1 rfl 0 rfl (by decide) (by decide) rfl dX6_keep_16 ?_
  refine lv_aload_n hx hb dX6_keep_17 rfl (lv_at hl 0 rfl) ?_
  refine va_get (ci := 6) (v := .ref (aN 0)) (C := RX6) (T := TX6) (N := 9) hx hb ht inX6 hown hK.1 hP 0 rfl rfl 1 (by decide) (ht _ q_264) (fun _ h9 => h9) rfl dX6_keep_18 ?_
  refine k_callv (kRunV (As := [.ref (aN 0)]) (rest := []) kx (c_X5_copyFrom l G gS0 gN aS0 aN hN) q_439 q_436 q_31 q_437 q_438 nX5_copyFrom ⟨Nat.le_of_ble_eq_true rfl, Nat.le_of_ble_eq_true rfl⟩ hK hP hD ((kPm_swap (kPm_skipB (kPm_keepB (kPm_left (kPm_all _)))))).ctx 0 5 rfl rfl rfl rfl hl.1 (Nat.le_of_ble_eq_true rfl) dX6_keep_21 ⟨Nat.zero_le _, Nat.zero_le _⟩) hP hD hS hA ((kPm_swap (kPm_skipB (kPm_keepB (kPm_left (kPm_all _)))))).ctx (fun _ => rfl) (fun _ H1 locs1 hw hP1 hD1 hS1 => ?_)
  have hP2 : va_P G.1 vwCl ([(h0, .inr (6, cQ (kc cA) t0 (aN 0) (aT 0) b0 s0 i0 e0 sd)), (s0, .inl (G.2.2.2, 2, .inr (.inr (.inr (.inr (kSO aS0 aS1)))))), (i0, .inl (G.2.2.1, 2, .inl ik))] ++ (cW aN gN ++ (cW aS0 gN ++ (cW aS1 gS1)))) H1 := hP1
  have hD3 : va_D A ([(h0, .inr (6, cQ (kc cA) t0 (aN 0) (aT 0) b0 s0 i0 e0 sd)), (s0, .inl (G.2.2.2, 2, .inr (.inr (.inr (.inr (kSO aS0 aS1)))))), (i0, .inl (G.2.2.1, 2, .inl ik))] ++ (cW aN gN ++ (cW aS0 gN ++ (cW aS1 gS1)))) := hD1
  refine lv_aload_n hx hb dX6_keep_24 rfl (lv_at hl 0 rfl) ?_
  refine va_get (ci := 6) (v := .ref i0) (C := RX6) (T := TX6) (N := 9) hx hb ht inX6 hown hK.1 hP2 0 rfl rfl 6 (by decide) (ht _ q_269) (fun _ h9 => h9) rfl dX6_keep_25 ?_
  refine lv_iload_n hx hb dX6_keep_28 rfl (lv_at hl 1 rfl) ?_
  refine lv_iconst (v := 1) hx hb dX6_keep_29 (by decide) ?_
  refine k_zast kx hK hP2 hD3 hS1 2 rfl 0 rfl (by decide) (by decide) rfl dX6_keep_30 (fun H4 locs4 hP4 hD4 hS4 => ?_)
  have hP5 : va_P G.1 vwCl ([(h0, .inr (6, cQ (kc cA) t0 (aN 0) (aT 0) b0 s0 i0 e0 sd)), (s0, .inl (G.2.2.2, 2, .inr (.inr (.inr (.inr (kSO aS0 aS1)))))), (i0, .inl (G.2.2.1, 2, .inl (upd ik 0 1)))] ++ (cW aN gN ++ (cW aS0 gN ++ (cW aS1 gS1)))) H4 := hP4
  have hD6 : va_D A ([(h0, .inr (6, cQ (kc cA) t0 (aN 0) (aT 0) b0 s0 i0 e0 sd)), (s0, .inl (G.2.2.2, 2, .inr (.inr (.inr (.inr (kSO aS0 aS1)))))), (i0, .inl (G.2.2.1, 2, .inl (upd ik 0 1)))] ++ (cW aN gN ++ (cW aS0 gN ++ (cW aS1 gS1)))) := hD4
  refine lv_aload_n hx hb dX6_keep_31 rfl (lv_at hl 0 rfl) ?_
  refine va_get (ci := 6) (v := .ref (aN 0)) (C := RX6) (T := TX6) (N := 9) hx hb ht inX6 hown hK.1 hP5 0 rfl rfl 1 (by decide) (ht _ q_264) (fun _ h9 => h9) rfl dX6_keep_32 ?_
  refine va_get (ci := 5) (v := .int (gN 4 0)) (C := RX5) (T := TX5) (N := 8) hx hb ht inX5 hown hK.1 hP5 3 rfl rfl 4 (by decide) (ht _ q_217) (fun _ h9 => h9) rfl dX6_keep_35 ?_
  exact k_iret kx hK hP5 hD6 hS4 (u := ()) rfl rfl dX6_keep_38

def r_X6_again_0 (ik : Nat → Int32) (gS0 : Nat → Nat → Int32) : Int32 := if ik 0 = 0 then (-3) else gS0 4 0
def s_X6_again_0_gN (ik : Nat → Int32) (gN : Nat → Nat → Int32) (gS0 : Nat → Nat → Int32) : Nat → Nat → Int32 := if ik 0 = 0 then gN else gS0
def s_X6_again_0_ac (cA : Int32) (ik : Nat → Int32) : Nat → Int32 := if ik 0 = 0 then (kc cA) else kc 0
set_option maxHeartbeats 4000000 in
set_option maxRecDepth 100000 in
theorem c_X6_again_0 (l : Launch) (G : kG) (cA : Int32) (sd : Int64) (h0 : Nat) (t0 : Nat) (aN : Nat → Nat) (aT : Nat → Nat) (b0 : Nat) (s0 : Nat) (i0 : Nat) (e0 : Nat) (aS0 : Nat → Nat) (aS1 : Nat → Nat) (ik : Nat → Int32) (gN : Nat → Nat → Int32) (gS0 : Nat → Nat → Int32) (gS1 : Nat → Nat → Int32) (hS9 : bW gS0) : cG l G yX6_again cX6_again 2 (some .int) 3 [.ref h0, .int 0] ([(h0, .inr (6, cQ (kc cA) t0 (aN 0) (aT 0) b0 s0 i0 e0 sd)), (s0, .inl (G.2.2.2, 2, .inr (.inr (.inr (.inr (kSO aS0 aS1)))))), (i0, .inl (G.2.2.1, 2, .inl ik))] ++ (cW aN gN ++ (cW aS0 gS0 ++ (cW aS1 gS1)))) (qI G (fun (r : Int32) (u : ((Nat → Nat → Int32) × (Nat → Int32))) => r = r_X6_again_0 ik gS0 ∧ u.1 = s_X6_again_0_gN ik gN gS0 ∧ u.2 = s_X6_again_0_ac cA ik) (fun u => [(h0, .inr (6, cQ u.2 t0 (aN 0) (aT 0) b0 s0 i0 e0 sd)), (s0, .inl (G.2.2.2, 2, .inr (.inr (.inr (.inr (kSO aS0 aS1)))))), (i0, .inl (G.2.2.1, 2, .inl ik))] ++ (cW aN u.1 ++ (cW aS0 gS0 ++ (cW aS1 gS1))))) := by
  refine kintro (by decide) (Nat.le_of_ble_eq_true rfl) ?_
  intro p e s m args below meth c A ls kx hK hP hD hS hA hl
  have kx : kX p s m args meth c cX6_again 2 (some .int) RX6 := kx
  have hx := kx.1
  have hb := kx.2.1
  have hown := kx.2.2.2.2.1
  have ht := kx.2.2.2.2.2.2
  have hl : lv_has ls 2 [(0, .ref h0), (1, .int 0)] := hl
  refine lv_iload_n hx hb dX6_again_0 rfl (lv_at hl 1 rfl) ?_
  refine lv_if_lt (x := 0) (tgt := 9) hx hb dX6_again_1 (by decide) (fun (c1 : 0 < 0) => absurd c1 (by decide)) (fun (c1 : ¬ (0 < 0)) => ?_)
  refine lv_iload_n hx hb dX6_again_4 rfl (lv_at hl 1 rfl) ?_
  refine lv_iconst (v := 2) hx hb dX6_again_5 (by decide) ?_
  refine lv_icmp_lt (x := 0) (y := 2) (tgt := 11) hx hb dX6_again_6 (by decide) (fun (c2 : 0 < 2) => ?_) (fun (c2 : ¬ (0 < 2)) => absurd (by decide) c2)
  refine lv_aload_n hx hb dX6_again_11 rfl (lv_at hl 0 rfl) ?_
  refine va_get (ci := 6) (v := .ref i0) (C := RX6) (T := TX6) (N := 9) hx hb ht inX6 hown hK.1 hP 0 rfl rfl 6 (by decide) (ht _ q_269) (fun _ h9 => h9) rfl dX6_again_12 ?_
  refine lv_iload_n hx hb dX6_again_15 rfl (lv_at hl 1 rfl) ?_
  refine k_zald (v := (ik 0)) kx hK hP 2 rfl 0 rfl (by decide) (by decide) rfl dX6_again_16 ?_
  refine lv_if_ne (x := ik 0) (tgt := 23) hx hb dX6_again_17 (by decide) (fun (c3 : ¬ (ik 0 = 0)) => ?_) (fun (c3 : ik 0 = 0) => ?_)
  · skip
    refine lv_aload_n hx hb dX6_again_23 rfl (lv_at hl 0 rfl) ?_
    refine va_get (ci := 6) (v := .ref (aN 0)) (C := RX6) (T := TX6) (N := 9) hx hb ht inX6 hown hK.1 hP 0 rfl rfl 1 (by decide) (ht _ q_264) (fun _ h9 => h9) rfl dX6_again_24 ?_
    refine lv_aload_n hx hb dX6_again_27 rfl (lv_at hl 0 rfl) ?_
    refine va_get (ci := 6) (v := .ref s0) (C := RX6) (T := TX6) (N := 9) hx hb ht inX6 hown hK.1 hP 0 rfl rfl 5 (by decide) (ht _ q_268) (fun _ h9 => h9) rfl dX6_again_28 ?_
    refine lv_iload_n hx hb dX6_again_31 rfl (lv_at hl 1 rfl) ?_
    refine k_aald (v := aS0 0) kx hK hP 1 rfl 0 rfl (by decide) (by decide) rfl dX6_again_32 ?_
    refine k_callv (kRunV (As := [.ref (aS0 0)]) (rest := []) kx (c_X5_copyFrom l G gN gS0 aN aS0 hS9) q_439 q_436 q_31 q_437 q_438 nX5_copyFrom ⟨Nat.le_of_ble_eq_true rfl, Nat.le_of_ble_eq_true rfl⟩ hK hP hD ((kPm_skipB (kPm_keepB (kPm_left (kPm_all _))))).ctx 0 5 rfl rfl rfl rfl hl.1 (Nat.le_of_ble_eq_true rfl) dX6_again_33 ⟨Nat.zero_le _, Nat.zero_le _⟩) hP hD hS hA ((kPm_skipB (kPm_keepB (kPm_left (kPm_all _))))).ctx (fun _ => rfl) (fun _ H1 locs1 hw hP1 hD1 hS1 => ?_)
    have hP2 : va_P G.1 vwCl ([(h0, .inr (6, cQ (kc cA) t0 (aN 0) (aT 0) b0 s0 i0 e0 sd)), (s0, .inl (G.2.2.2, 2, .inr (.inr (.inr (.inr (kSO aS0 aS1)))))), (i0, .inl (G.2.2.1, 2, .inl ik))] ++ (cW aN gS0 ++ (cW aS0 gS0 ++ (cW aS1 gS1)))) H1 := hP1
    have hD3 : va_D A ([(h0, .inr (6, cQ (kc cA) t0 (aN 0) (aT 0) b0 s0 i0 e0 sd)), (s0, .inl (G.2.2.2, 2, .inr (.inr (.inr (.inr (kSO aS0 aS1)))))), (i0, .inl (G.2.2.1, 2, .inl ik))] ++ (cW aN gS0 ++ (cW aS0 gS0 ++ (cW aS1 gS1)))) := hD1
    refine lv_aload_n hx hb dX6_again_36 rfl (lv_at hl 0 rfl) ?_
    refine lv_iconst (v := 0) hx hb dX6_again_37 (by decide) ?_
    refine va_put (ci := 6) (v := .int 0) (ty := .int) (C := RX6) (T := TX6) (N := 9) hx hb ht inX6 tyX6 tyX6_ok nmX6 hown hK.1 hP2 hD3 hS1 0 rfl rfl 4 (by decide) (ht _ q_267) (fun _ h9 => h9) rfl (by decide +kernel) rfl rfl (Nat.le_of_ble_eq_true rfl) dX6_again_38 (fun H4 locs4 hP4 hD4 hS4 => ?_)
    have hP5 : va_P G.1 vwCl ([(h0, .inr (6, cQ (kc 0) t0 (aN 0) (aT 0) b0 s0 i0 e0 sd)), (s0, .inl (G.2.2.2, 2, .inr (.inr (.inr (.inr (kSO aS0 aS1)))))), (i0, .inl (G.2.2.1, 2, .inl ik))] ++ (cW aN gS0 ++ (cW aS0 gS0 ++ (cW aS1 gS1)))) H4 := hP4
    have hD6 : va_D A ([(h0, .inr (6, cQ (kc 0) t0 (aN 0) (aT 0) b0 s0 i0 e0 sd)), (s0, .inl (G.2.2.2, 2, .inr (.inr (.inr (.inr (kSO aS0 aS1)))))), (i0, .inl (G.2.2.1, 2, .inl ik))] ++ (cW aN gS0 ++ (cW aS0 gS0 ++ (cW aS1 gS1)))) := hD4
    refine lv_aload_n hx hb dX6_again_41 rfl (lv_at hl 0 rfl) ?_
    refine va_get (ci := 6) (v := .ref (aN 0)) (C := RX6) (T := TX6) (N := 9) hx hb ht inX6 hown hK.1 hP5 0 rfl rfl 1 (by decide) (ht _ q_264) (fun _ h9 => h9) rfl dX6_again_42 ?_
    refine va_get (ci := 5) (v := .int (gS0 4 0)) (C := RX5) (T := TX5) (N := 8) hx hb ht inX5 hown hK.1 hP5 3 rfl rfl 4 (by decide) (ht _ q_217) (fun _ h9 => h9) rfl dX6_again_45 ?_
    have er : r_X6_again_0 ik gS0 = gS0 4 0 := by rw [r_X6_again_0, if_neg c3]
    have e0 : s_X6_again_0_gN ik gN gS0 = gS0 := by rw [s_X6_again_0_gN, if_neg c3]
    have e1 : s_X6_again_0_ac cA ik = kc 0 := by rw [s_X6_again_0_ac, if_neg c3]
    exact k_iret kx hK hP5 hD6 hS4 (u := (gS0, kc 0)) rfl ⟨er.symm, e0.symm, e1.symm⟩ dX6_again_48
  · skip
    refine lv_bipush (v := (-3)) hx hb dX6_again_20 (by decide) ?_
    have er : r_X6_again_0 ik gS0 = (-3) := by rw [r_X6_again_0, if_pos c3]
    have e0 : s_X6_again_0_gN ik gN gS0 = gN := by rw [s_X6_again_0_gN, if_pos c3]
    have e1 : s_X6_again_0_ac cA ik = kc cA := by rw [s_X6_again_0_ac, if_pos c3]
    exact k_iret kx hK hP hD hS (u := (gN, kc cA)) rfl ⟨er.symm, e0.symm, e1.symm⟩ dX6_again_22

set_option maxHeartbeats 4000000 in
set_option maxRecDepth 100000 in
theorem c_X6_keep_1 (l : Launch) (G : kG) (cA : Int32) (sd : Int64) (h0 : Nat) (t0 : Nat) (aN : Nat → Nat) (aT : Nat → Nat) (b0 : Nat) (s0 : Nat) (i0 : Nat) (e0 : Nat) (aS0 : Nat → Nat) (aS1 : Nat → Nat) (ik : Nat → Int32) (gN : Nat → Nat → Int32) (gS0 : Nat → Nat → Int32) (gS1 : Nat → Nat → Int32) (hN : bW gN) : cG l G yX6_keep cX6_keep 2 (some .int) 3 [.ref h0, .int 1] ([(h0, .inr (6, cQ (kc cA) t0 (aN 0) (aT 0) b0 s0 i0 e0 sd)), (s0, .inl (G.2.2.2, 2, .inr (.inr (.inr (.inr (kSO aS0 aS1)))))), (i0, .inl (G.2.2.1, 2, .inl ik))] ++ (cW aN gN ++ (cW aS0 gS0 ++ (cW aS1 gS1)))) (qI G (fun (r : Int32) (_ : Unit) => r = gN 4 0) (fun _ => [(h0, .inr (6, cQ (kc cA) t0 (aN 0) (aT 0) b0 s0 i0 e0 sd)), (s0, .inl (G.2.2.2, 2, .inr (.inr (.inr (.inr (kSO aS0 aS1)))))), (i0, .inl (G.2.2.1, 2, .inl (upd ik 1 1)))] ++ (cW aN gN ++ (cW aS0 gS0 ++ (cW aS1 gN))))) := by
  refine kintro (by decide) (Nat.le_of_ble_eq_true rfl) ?_
  intro p e s m args below meth c A ls kx hK hP hD hS hA hl
  have kx : kX p s m args meth c cX6_keep 2 (some .int) RX6 := kx
  have hx := kx.1
  have hb := kx.2.1
  have hown := kx.2.2.2.2.1
  have ht := kx.2.2.2.2.2.2
  have hl : lv_has ls 2 [(0, .ref h0), (1, .int 1)] := hl
  refine lv_iload_n hx hb dX6_keep_0 rfl (lv_at hl 1 rfl) ?_
  refine lv_if_lt (x := 1) (tgt := 9) hx hb dX6_keep_1 (by decide) (fun (c1 : 1 < 0) => absurd c1 (by decide)) (fun (c1 : ¬ (1 < 0)) => ?_)
  refine lv_iload_n hx hb dX6_keep_4 rfl (lv_at hl 1 rfl) ?_
  refine lv_iconst (v := 2) hx hb dX6_keep_5 (by decide) ?_
  refine lv_icmp_lt (x := 1) (y := 2) (tgt := 11) hx hb dX6_keep_6 (by decide) (fun (c2 : 1 < 2) => ?_) (fun (c2 : ¬ (1 < 2)) => absurd (by decide) c2)
  refine lv_aload_n hx hb dX6_keep_11 rfl (lv_at hl 0 rfl) ?_
  refine va_get (ci := 6) (v := .ref s0) (C := RX6) (T := TX6) (N := 9) hx hb ht inX6 hown hK.1 hP 0 rfl rfl 5 (by decide) (ht _ q_268) (fun _ h9 => h9) rfl dX6_keep_12 ?_
  refine lv_iload_n hx hb dX6_keep_15 rfl (lv_at hl 1 rfl) ?_
  refine k_aald (v := aS1 0) kx hK hP 1 rfl 1 rfl (by decide) (by decide) rfl dX6_keep_16 ?_
  refine lv_aload_n hx hb dX6_keep_17 rfl (lv_at hl 0 rfl) ?_
  refine va_get (ci := 6) (v := .ref (aN 0)) (C := RX6) (T := TX6) (N := 9) hx hb ht inX6 hown hK.1 hP 0 rfl rfl 1 (by decide) (ht _ q_264) (fun _ h9 => h9) rfl dX6_keep_18 ?_
  refine k_callv (kRunV (As := [.ref (aN 0)]) (rest := []) kx (c_X5_copyFrom l G gS1 gN aS1 aN hN) q_439 q_436 q_31 q_437 q_438 nX5_copyFrom ⟨Nat.le_of_ble_eq_true rfl, Nat.le_of_ble_eq_true rfl⟩ hK hP hD ((kPm_swap (kPm_skipB (kPm_keepB (kPm_skipB (kPm_all _)))))).ctx 0 5 rfl rfl rfl rfl hl.1 (Nat.le_of_ble_eq_true rfl) dX6_keep_21 ⟨Nat.zero_le _, Nat.zero_le _⟩) hP hD hS hA ((kPm_swap (kPm_skipB (kPm_keepB (kPm_skipB (kPm_all _)))))).ctx (fun _ => rfl) (fun _ H1 locs1 hw hP1 hD1 hS1 => ?_)
  have hP2 : va_P G.1 vwCl ([(h0, .inr (6, cQ (kc cA) t0 (aN 0) (aT 0) b0 s0 i0 e0 sd)), (s0, .inl (G.2.2.2, 2, .inr (.inr (.inr (.inr (kSO aS0 aS1)))))), (i0, .inl (G.2.2.1, 2, .inl ik))] ++ (cW aN gN ++ (cW aS0 gS0 ++ (cW aS1 gN)))) H1 := hP1
  have hD3 : va_D A ([(h0, .inr (6, cQ (kc cA) t0 (aN 0) (aT 0) b0 s0 i0 e0 sd)), (s0, .inl (G.2.2.2, 2, .inr (.inr (.inr (.inr (kSO aS0 aS1)))))), (i0, .inl (G.2.2.1, 2, .inl ik))] ++ (cW aN gN ++ (cW aS0 gS0 ++ (cW aS1 gN)))) := hD1
  refine lv_aload_n hx hb dX6_keep_24 rfl (lv_at hl 0 rfl) ?_
  refine va_get (ci := 6) (v := .ref i0) (C := RX6) (T := TX6) (N := 9) hx hb ht inX6 hown hK.1 hP2 0 rfl rfl 6 (by decide) (ht _ q_269) (fun _ h9 => h9) rfl dX6_keep_25 ?_
  refine lv_iload_n hx hb dX6_keep_28 rfl (lv_at hl 1 rfl) ?_
  refine lv_iconst (v := 1) hx hb dX6_keep_29 (by decide) ?_
  refine k_zast kx hK hP2 hD3 hS1 2 rfl 1 rfl (by decide) (by decide) rfl dX6_keep_30 (fun H4 locs4 hP4 hD4 hS4 => ?_)
  have hP5 : va_P G.1 vwCl ([(h0, .inr (6, cQ (kc cA) t0 (aN 0) (aT 0) b0 s0 i0 e0 sd)), (s0, .inl (G.2.2.2, 2, .inr (.inr (.inr (.inr (kSO aS0 aS1)))))), (i0, .inl (G.2.2.1, 2, .inl (upd ik 1 1)))] ++ (cW aN gN ++ (cW aS0 gS0 ++ (cW aS1 gN)))) H4 := hP4
  have hD6 : va_D A ([(h0, .inr (6, cQ (kc cA) t0 (aN 0) (aT 0) b0 s0 i0 e0 sd)), (s0, .inl (G.2.2.2, 2, .inr (.inr (.inr (.inr (kSO aS0 aS1)))))), (i0, .inl (G.2.2.1, 2, .inl (upd ik 1 1)))] ++ (cW aN gN ++ (cW aS0 gS0 ++ (cW aS1 gN)))) := hD4
  refine lv_aload_n hx hb dX6_keep_31 rfl (lv_at hl 0 rfl) ?_
  refine va_get (ci := 6) (v := .ref (aN 0)) (C := RX6) (T := TX6) (N := 9) hx hb ht inX6 hown hK.1 hP5 0 rfl rfl 1 (by decide) (ht _ q_264) (fun _ h9 => h9) rfl dX6_keep_32 ?_
  refine va_get (ci := 5) (v := .int (gN 4 0)) (C := RX5) (T := TX5) (N := 8) hx hb ht inX5 hown hK.1 hP5 3 rfl rfl 4 (by decide) (ht _ q_217) (fun _ h9 => h9) rfl dX6_keep_35 ?_
  exact k_iret kx hK hP5 hD6 hS4 (u := ()) rfl rfl dX6_keep_38

def r_X6_again_1 (ik : Nat → Int32) (gS1 : Nat → Nat → Int32) : Int32 := if ik 1 = 0 then (-3) else gS1 4 0
def s_X6_again_1_gN (ik : Nat → Int32) (gN : Nat → Nat → Int32) (gS1 : Nat → Nat → Int32) : Nat → Nat → Int32 := if ik 1 = 0 then gN else gS1
def s_X6_again_1_ac (cA : Int32) (ik : Nat → Int32) : Nat → Int32 := if ik 1 = 0 then (kc cA) else kc 0
set_option maxHeartbeats 4000000 in
set_option maxRecDepth 100000 in
theorem c_X6_again_1 (l : Launch) (G : kG) (cA : Int32) (sd : Int64) (h0 : Nat) (t0 : Nat) (aN : Nat → Nat) (aT : Nat → Nat) (b0 : Nat) (s0 : Nat) (i0 : Nat) (e0 : Nat) (aS0 : Nat → Nat) (aS1 : Nat → Nat) (ik : Nat → Int32) (gN : Nat → Nat → Int32) (gS0 : Nat → Nat → Int32) (gS1 : Nat → Nat → Int32) (hS9 : bW gS1) : cG l G yX6_again cX6_again 2 (some .int) 3 [.ref h0, .int 1] ([(h0, .inr (6, cQ (kc cA) t0 (aN 0) (aT 0) b0 s0 i0 e0 sd)), (s0, .inl (G.2.2.2, 2, .inr (.inr (.inr (.inr (kSO aS0 aS1)))))), (i0, .inl (G.2.2.1, 2, .inl ik))] ++ (cW aN gN ++ (cW aS0 gS0 ++ (cW aS1 gS1)))) (qI G (fun (r : Int32) (u : ((Nat → Nat → Int32) × (Nat → Int32))) => r = r_X6_again_1 ik gS1 ∧ u.1 = s_X6_again_1_gN ik gN gS1 ∧ u.2 = s_X6_again_1_ac cA ik) (fun u => [(h0, .inr (6, cQ u.2 t0 (aN 0) (aT 0) b0 s0 i0 e0 sd)), (s0, .inl (G.2.2.2, 2, .inr (.inr (.inr (.inr (kSO aS0 aS1)))))), (i0, .inl (G.2.2.1, 2, .inl ik))] ++ (cW aN u.1 ++ (cW aS0 gS0 ++ (cW aS1 gS1))))) := by
  refine kintro (by decide) (Nat.le_of_ble_eq_true rfl) ?_
  intro p e s m args below meth c A ls kx hK hP hD hS hA hl
  have kx : kX p s m args meth c cX6_again 2 (some .int) RX6 := kx
  have hx := kx.1
  have hb := kx.2.1
  have hown := kx.2.2.2.2.1
  have ht := kx.2.2.2.2.2.2
  have hl : lv_has ls 2 [(0, .ref h0), (1, .int 1)] := hl
  refine lv_iload_n hx hb dX6_again_0 rfl (lv_at hl 1 rfl) ?_
  refine lv_if_lt (x := 1) (tgt := 9) hx hb dX6_again_1 (by decide) (fun (c1 : 1 < 0) => absurd c1 (by decide)) (fun (c1 : ¬ (1 < 0)) => ?_)
  refine lv_iload_n hx hb dX6_again_4 rfl (lv_at hl 1 rfl) ?_
  refine lv_iconst (v := 2) hx hb dX6_again_5 (by decide) ?_
  refine lv_icmp_lt (x := 1) (y := 2) (tgt := 11) hx hb dX6_again_6 (by decide) (fun (c2 : 1 < 2) => ?_) (fun (c2 : ¬ (1 < 2)) => absurd (by decide) c2)
  refine lv_aload_n hx hb dX6_again_11 rfl (lv_at hl 0 rfl) ?_
  refine va_get (ci := 6) (v := .ref i0) (C := RX6) (T := TX6) (N := 9) hx hb ht inX6 hown hK.1 hP 0 rfl rfl 6 (by decide) (ht _ q_269) (fun _ h9 => h9) rfl dX6_again_12 ?_
  refine lv_iload_n hx hb dX6_again_15 rfl (lv_at hl 1 rfl) ?_
  refine k_zald (v := (ik 1)) kx hK hP 2 rfl 1 rfl (by decide) (by decide) rfl dX6_again_16 ?_
  refine lv_if_ne (x := ik 1) (tgt := 23) hx hb dX6_again_17 (by decide) (fun (c3 : ¬ (ik 1 = 0)) => ?_) (fun (c3 : ik 1 = 0) => ?_)
  · skip
    refine lv_aload_n hx hb dX6_again_23 rfl (lv_at hl 0 rfl) ?_
    refine va_get (ci := 6) (v := .ref (aN 0)) (C := RX6) (T := TX6) (N := 9) hx hb ht inX6 hown hK.1 hP 0 rfl rfl 1 (by decide) (ht _ q_264) (fun _ h9 => h9) rfl dX6_again_24 ?_
    refine lv_aload_n hx hb dX6_again_27 rfl (lv_at hl 0 rfl) ?_
    refine va_get (ci := 6) (v := .ref s0) (C := RX6) (T := TX6) (N := 9) hx hb ht inX6 hown hK.1 hP 0 rfl rfl 5 (by decide) (ht _ q_268) (fun _ h9 => h9) rfl dX6_again_28 ?_
    refine lv_iload_n hx hb dX6_again_31 rfl (lv_at hl 1 rfl) ?_
    refine k_aald (v := aS1 0) kx hK hP 1 rfl 1 rfl (by decide) (by decide) rfl dX6_again_32 ?_
    refine k_callv (kRunV (As := [.ref (aS1 0)]) (rest := []) kx (c_X5_copyFrom l G gN gS1 aN aS1 hS9) q_439 q_436 q_31 q_437 q_438 nX5_copyFrom ⟨Nat.le_of_ble_eq_true rfl, Nat.le_of_ble_eq_true rfl⟩ hK hP hD ((kPm_skipB (kPm_keepB (kPm_skipB (kPm_all _))))).ctx 0 5 rfl rfl rfl rfl hl.1 (Nat.le_of_ble_eq_true rfl) dX6_again_33 ⟨Nat.zero_le _, Nat.zero_le _⟩) hP hD hS hA ((kPm_skipB (kPm_keepB (kPm_skipB (kPm_all _))))).ctx (fun _ => rfl) (fun _ H1 locs1 hw hP1 hD1 hS1 => ?_)
    have hP2 : va_P G.1 vwCl ([(h0, .inr (6, cQ (kc cA) t0 (aN 0) (aT 0) b0 s0 i0 e0 sd)), (s0, .inl (G.2.2.2, 2, .inr (.inr (.inr (.inr (kSO aS0 aS1)))))), (i0, .inl (G.2.2.1, 2, .inl ik))] ++ (cW aN gS1 ++ (cW aS0 gS0 ++ (cW aS1 gS1)))) H1 := hP1
    have hD3 : va_D A ([(h0, .inr (6, cQ (kc cA) t0 (aN 0) (aT 0) b0 s0 i0 e0 sd)), (s0, .inl (G.2.2.2, 2, .inr (.inr (.inr (.inr (kSO aS0 aS1)))))), (i0, .inl (G.2.2.1, 2, .inl ik))] ++ (cW aN gS1 ++ (cW aS0 gS0 ++ (cW aS1 gS1)))) := hD1
    refine lv_aload_n hx hb dX6_again_36 rfl (lv_at hl 0 rfl) ?_
    refine lv_iconst (v := 0) hx hb dX6_again_37 (by decide) ?_
    refine va_put (ci := 6) (v := .int 0) (ty := .int) (C := RX6) (T := TX6) (N := 9) hx hb ht inX6 tyX6 tyX6_ok nmX6 hown hK.1 hP2 hD3 hS1 0 rfl rfl 4 (by decide) (ht _ q_267) (fun _ h9 => h9) rfl (by decide +kernel) rfl rfl (Nat.le_of_ble_eq_true rfl) dX6_again_38 (fun H4 locs4 hP4 hD4 hS4 => ?_)
    have hP5 : va_P G.1 vwCl ([(h0, .inr (6, cQ (kc 0) t0 (aN 0) (aT 0) b0 s0 i0 e0 sd)), (s0, .inl (G.2.2.2, 2, .inr (.inr (.inr (.inr (kSO aS0 aS1)))))), (i0, .inl (G.2.2.1, 2, .inl ik))] ++ (cW aN gS1 ++ (cW aS0 gS0 ++ (cW aS1 gS1)))) H4 := hP4
    have hD6 : va_D A ([(h0, .inr (6, cQ (kc 0) t0 (aN 0) (aT 0) b0 s0 i0 e0 sd)), (s0, .inl (G.2.2.2, 2, .inr (.inr (.inr (.inr (kSO aS0 aS1)))))), (i0, .inl (G.2.2.1, 2, .inl ik))] ++ (cW aN gS1 ++ (cW aS0 gS0 ++ (cW aS1 gS1)))) := hD4
    refine lv_aload_n hx hb dX6_again_41 rfl (lv_at hl 0 rfl) ?_
    refine va_get (ci := 6) (v := .ref (aN 0)) (C := RX6) (T := TX6) (N := 9) hx hb ht inX6 hown hK.1 hP5 0 rfl rfl 1 (by decide) (ht _ q_264) (fun _ h9 => h9) rfl dX6_again_42 ?_
    refine va_get (ci := 5) (v := .int (gS1 4 0)) (C := RX5) (T := TX5) (N := 8) hx hb ht inX5 hown hK.1 hP5 3 rfl rfl 4 (by decide) (ht _ q_217) (fun _ h9 => h9) rfl dX6_again_45 ?_
    have er : r_X6_again_1 ik gS1 = gS1 4 0 := by rw [r_X6_again_1, if_neg c3]
    have e0 : s_X6_again_1_gN ik gN gS1 = gS1 := by rw [s_X6_again_1_gN, if_neg c3]
    have e1 : s_X6_again_1_ac cA ik = kc 0 := by rw [s_X6_again_1_ac, if_neg c3]
    exact k_iret kx hK hP5 hD6 hS4 (u := (gS1, kc 0)) rfl ⟨er.symm, e0.symm, e1.symm⟩ dX6_again_48
  · skip
    refine lv_bipush (v := (-3)) hx hb dX6_again_20 (by decide) ?_
    have er : r_X6_again_1 ik gS1 = (-3) := by rw [r_X6_again_1, if_pos c3]
    have e0 : s_X6_again_1_gN ik gN gS1 = gN := by rw [s_X6_again_1_gN, if_pos c3]
    have e1 : s_X6_again_1_ac cA ik = kc cA := by rw [s_X6_again_1_ac, if_pos c3]
    exact k_iret kx hK hP hD hS (u := (gN, kc cA)) rfl ⟨er.symm, e0.symm, e1.symm⟩ dX6_again_22

def r_X6_keep_x (p0 : Int32) : Int32 := if p0 < 0 then (-1) else (-1)
set_option maxHeartbeats 4000000 in
set_option maxRecDepth 100000 in
theorem c_X6_keep_x (l : Launch) (G : kG) (cA : Int32) (sd : Int64) (h0 : Nat) (t0 : Nat) (aN : Nat → Nat) (aT : Nat → Nat) (b0 : Nat) (s0 : Nat) (i0 : Nat) (e0 : Nat) (p0 : Int32) (h9 : ¬ p0 = 0) (h8 : ¬ p0 = 1) : cG l G yX6_keep cX6_keep 2 (some .int) 0 [.ref h0, .int p0] ([(h0, .inr (6, cQ (kc cA) t0 (aN 0) (aT 0) b0 s0 i0 e0 sd))]) (qI G (fun (r : Int32) (_ : Unit) => r = r_X6_keep_x p0) (fun _ => [(h0, .inr (6, cQ (kc cA) t0 (aN 0) (aT 0) b0 s0 i0 e0 sd))])) := by
  refine kintro (by decide) (Nat.le_of_ble_eq_true rfl) ?_
  intro p e s m args below meth c A ls kx hK hP hD hS hA hl
  have kx : kX p s m args meth c cX6_keep 2 (some .int) RX6 := kx
  have hx := kx.1
  have hb := kx.2.1
  have hown := kx.2.2.2.2.1
  have ht := kx.2.2.2.2.2.2
  have hl : lv_has ls 2 [(0, .ref h0), (1, .int p0)] := hl
  refine lv_iload_n hx hb dX6_keep_0 rfl (lv_at hl 1 rfl) ?_
  refine lv_if_lt (x := p0) (tgt := 9) hx hb dX6_keep_1 (by decide) (fun (c1 : p0 < 0) => ?_) (fun (c1 : ¬ (p0 < 0)) => ?_)
  · skip
    refine lv_iconst (v := (-1)) hx hb dX6_keep_9 (by decide) ?_
    have er : r_X6_keep_x p0 = (-1) := by rw [r_X6_keep_x, if_pos c1]
    exact k_iret kx hK hP hD hS (u := ()) rfl er.symm dX6_keep_10
  · skip
    refine lv_iload_n hx hb dX6_keep_4 rfl (lv_at hl 1 rfl) ?_
    refine lv_iconst (v := 2) hx hb dX6_keep_5 (by decide) ?_
    refine lv_icmp_lt (x := p0) (y := 2) (tgt := 11) hx hb dX6_keep_6 (by decide) (fun (c2 : p0 < 2) => absurd c2 (knlt2 c1 h9 h8)) (fun (c2 : ¬ (p0 < 2)) => ?_)
    refine lv_iconst (v := (-1)) hx hb dX6_keep_9 (by decide) ?_
    have er : r_X6_keep_x p0 = (-1) := by rw [r_X6_keep_x, if_neg c1]
    exact k_iret kx hK hP hD hS (u := ()) rfl er.symm dX6_keep_10

def r_X6_again_x (p0 : Int32) : Int32 := if p0 < 0 then (-1) else (-1)
set_option maxHeartbeats 4000000 in
set_option maxRecDepth 100000 in
theorem c_X6_again_x (l : Launch) (G : kG) (cA : Int32) (sd : Int64) (h0 : Nat) (t0 : Nat) (aN : Nat → Nat) (aT : Nat → Nat) (b0 : Nat) (s0 : Nat) (i0 : Nat) (e0 : Nat) (p0 : Int32) (h9 : ¬ p0 = 0) (h8 : ¬ p0 = 1) : cG l G yX6_again cX6_again 2 (some .int) 0 [.ref h0, .int p0] ([(h0, .inr (6, cQ (kc cA) t0 (aN 0) (aT 0) b0 s0 i0 e0 sd))]) (qI G (fun (r : Int32) (_ : Unit) => r = r_X6_again_x p0) (fun _ => [(h0, .inr (6, cQ (kc cA) t0 (aN 0) (aT 0) b0 s0 i0 e0 sd))])) := by
  refine kintro (by decide) (Nat.le_of_ble_eq_true rfl) ?_
  intro p e s m args below meth c A ls kx hK hP hD hS hA hl
  have kx : kX p s m args meth c cX6_again 2 (some .int) RX6 := kx
  have hx := kx.1
  have hb := kx.2.1
  have hown := kx.2.2.2.2.1
  have ht := kx.2.2.2.2.2.2
  have hl : lv_has ls 2 [(0, .ref h0), (1, .int p0)] := hl
  refine lv_iload_n hx hb dX6_again_0 rfl (lv_at hl 1 rfl) ?_
  refine lv_if_lt (x := p0) (tgt := 9) hx hb dX6_again_1 (by decide) (fun (c1 : p0 < 0) => ?_) (fun (c1 : ¬ (p0 < 0)) => ?_)
  · skip
    refine lv_iconst (v := (-1)) hx hb dX6_again_9 (by decide) ?_
    have er : r_X6_again_x p0 = (-1) := by rw [r_X6_again_x, if_pos c1]
    exact k_iret kx hK hP hD hS (u := ()) rfl er.symm dX6_again_10
  · skip
    refine lv_iload_n hx hb dX6_again_4 rfl (lv_at hl 1 rfl) ?_
    refine lv_iconst (v := 2) hx hb dX6_again_5 (by decide) ?_
    refine lv_icmp_lt (x := p0) (y := 2) (tgt := 11) hx hb dX6_again_6 (by decide) (fun (c2 : p0 < 2) => absurd c2 (knlt2 c1 h9 h8)) (fun (c2 : ¬ (p0 < 2)) => ?_)
    refine lv_iconst (v := (-1)) hx hb dX6_again_9 (by decide) ?_
    have er : r_X6_again_x p0 = (-1) := by rw [r_X6_again_x, if_neg c1]
    exact k_iret kx hK hP hD hS (u := ()) rfl er.symm dX6_again_10

def r_X6_link (L : Nat) (sg : Nat → Int32) (gN : Nat → Nat → Int32) : Int32 := if (r_X3_faultPlace L sg) = (-9) then ((s_X3_layOut_g L sg gN) 4 0) else (-3)
def s_X6_link_gN (L : Nat) (sg : Nat → Int32) (gN : Nat → Nat → Int32) : Nat → Nat → Int32 := if (r_X3_faultPlace L sg) = (-9) then (s_X3_layOut_g L sg gN) else gN
def s_X6_link_ac (cA : Int32) (L : Nat) (sg : Nat → Int32) : Nat → Int32 := if (r_X3_faultPlace L sg) = (-9) then (kc 0) else kc cA
def s_X6_link_ik (L : Nat) (sg : Nat → Int32) (ik : Nat → Int32) : Nat → Int32 := if (r_X3_faultPlace L sg) = (-9) then (upd (upd ik 0 0) 1 0) else ik
set_option maxHeartbeats 4000000 in
set_option maxRecDepth 100000 in
theorem c_X6_link (l : Launch) (G : kG) (cA : Int32) (sd : Int64) (h0 : Nat) (t0 : Nat) (aN : Nat → Nat) (aT : Nat → Nat) (b0 : Nat) (s0 : Nat) (i0 : Nat) (e0 : Nat) (L : Nat) (sg : Nat → Int32) (t1 : Nat) (gN : Nat → Nat → Int32) (ik : Nat → Int32) (hL : L ≤ 70) : cG l G yX6_link cX6_link 2 (some .int) 6 [.ref h0] ([(h0, .inr (6, cQ (kc cA) t0 (aN 0) (aT 0) b0 s0 i0 e0 sd)), (t0, .inr (3, cX (kc (nI L)) t1)), (t1, .inl (G.2.1, 70, .inl sg)), (i0, .inl (G.2.2.1, 2, .inl ik))] ++ (cW aN gN)) (qI G (fun (r : Int32) (u : ((Nat → Nat → Int32) × (Nat → Int32) × (Nat → Int32))) => r = r_X6_link L sg gN ∧ u.1 = s_X6_link_gN L sg gN ∧ u.2.1 = s_X6_link_ac cA L sg ∧ u.2.2 = s_X6_link_ik L sg ik) (fun u => [(h0, .inr (6, cQ u.2.1 t0 (aN 0) (aT 0) b0 s0 i0 e0 sd)), (t0, .inr (3, cX (kc (nI L)) t1)), (t1, .inl (G.2.1, 70, .inl sg)), (i0, .inl (G.2.2.1, 2, .inl u.2.2))] ++ (cW aN u.1))) := by
  refine kintro (by decide) (Nat.le_of_ble_eq_true rfl) ?_
  intro p e s m args below meth c A ls kx hK hP hD hS hA hl
  have kx : kX p s m args meth c cX6_link 2 (some .int) RX6 := kx
  have hx := kx.1
  have hb := kx.2.1
  have hown := kx.2.2.2.2.1
  have ht := kx.2.2.2.2.2.2
  have hl : lv_has ls 2 [(0, .ref h0)] := hl
  refine lv_aload_n hx hb dX6_link_0 rfl (lv_at hl 0 rfl) ?_
  refine va_get (ci := 6) (v := .ref t0) (C := RX6) (T := TX6) (N := 9) hx hb ht inX6 hown hK.1 hP 0 rfl rfl 0 (by decide) (ht _ q_263) (fun _ h9 => h9) rfl dX6_link_1 ?_
  refine k_calli (kRunV (As := []) (rest := []) kx (c_X3_faultPlace l G L sg t0 t1 hL) q_310 q_307 q_30 q_308 q_309 nX3_faultPlace ⟨Nat.le_of_ble_eq_true rfl, Nat.le_of_ble_eq_true rfl⟩ hK hP hD ((kPm_left (kPm_skip (kPm_keep (kPm_keep (kPm_none _)))))).ctx 0 3 rfl rfl rfl rfl hl.1 (Nat.le_of_ble_eq_true rfl) dX6_link_4 ⟨Nat.zero_le _, Nat.zero_le _⟩) hP hD hS hA ((kPm_left (kPm_skip (kPm_keep (kPm_keep (kPm_none _)))))).ctx (fun _ => rfl) (fun r1 _ H1 locs1 hw hP1 hD1 hS1 => ?_)
  have hr1 : r_X3_faultPlace L sg = r1 := (show r1 = r_X3_faultPlace L sg from hw).symm
  have hP2 : va_P G.1 vwCl ([(h0, .inr (6, cQ (kc cA) t0 (aN 0) (aT 0) b0 s0 i0 e0 sd)), (t0, .inr (3, cX (kc (nI L)) t1)), (t1, .inl (G.2.1, 70, .inl sg)), (i0, .inl (G.2.2.1, 2, .inl ik))] ++ (cW aN gN)) H1 := hP1
  have hD3 : va_D A ([(h0, .inr (6, cQ (kc cA) t0 (aN 0) (aT 0) b0 s0 i0 e0 sd)), (t0, .inr (3, cX (kc (nI L)) t1)), (t1, .inl (G.2.1, 70, .inl sg)), (i0, .inl (G.2.2.1, 2, .inl ik))] ++ (cW aN gN)) := hD1
  refine lv_bipush (v := (-9)) hx hb dX6_link_7 (by decide) ?_
  refine lv_icmp_eq (x := r1) (y := (-9)) (tgt := 15) hx hb dX6_link_9 (by decide) (fun (c2 : r1 = (-9)) => ?_) (fun (c2 : ¬ (r1 = (-9))) => ?_)
  · skip
    refine lv_aload_n hx hb dX6_link_15 rfl (lv_at hl 0 rfl) ?_
    refine va_get (ci := 6) (v := .ref t0) (C := RX6) (T := TX6) (N := 9) hx hb ht inX6 hown hK.1 hP2 0 rfl rfl 0 (by decide) (ht _ q_263) (fun _ h9 => h9) rfl dX6_link_16 ?_
    refine lv_aload_n hx hb dX6_link_19 rfl (lv_at hl 0 rfl) ?_
    refine va_get (ci := 6) (v := .ref (aN 0)) (C := RX6) (T := TX6) (N := 9) hx hb ht inX6 hown hK.1 hP2 0 rfl rfl 1 (by decide) (ht _ q_264) (fun _ h9 => h9) rfl dX6_link_20 ?_
    refine k_callv (kRunV (As := [.ref (aN 0)]) (rest := []) kx (c_X3_layOut l G L sg t0 t1 gN aN (kfp7 (hr1.trans c2)) hL) q_324 q_321 q_30 q_322 q_323 nX3_layOut ⟨Nat.le_of_ble_eq_true rfl, Nat.le_of_ble_eq_true rfl⟩ hK hP2 hD3 ((kPm_app (kPm_skip (kPm_keep (kPm_keep (kPm_none _)))) (kPm_all _))).ctx 0 3 rfl rfl rfl rfl hl.1 (Nat.le_of_ble_eq_true rfl) dX6_link_23 ⟨Nat.zero_le _, Nat.zero_le _⟩) hP2 hD3 hS1 hA ((kPm_app (kPm_skip (kPm_keep (kPm_keep (kPm_none _)))) (kPm_all _))).ctx (fun _ => rfl) (fun g4 H4 locs4 hw hP4 hD4 hS4 => ?_)
    have hg4 : s_X3_layOut_g L sg gN = g4 := (show g4 = s_X3_layOut_g L sg gN from hw).symm
    have hP5 : va_P G.1 vwCl ([(h0, .inr (6, cQ (kc cA) t0 (aN 0) (aT 0) b0 s0 i0 e0 sd)), (t0, .inr (3, cX (kc (nI L)) t1)), (t1, .inl (G.2.1, 70, .inl sg)), (i0, .inl (G.2.2.1, 2, .inl ik))] ++ (cW aN g4)) H4 := hP4
    have hD6 : va_D A ([(h0, .inr (6, cQ (kc cA) t0 (aN 0) (aT 0) b0 s0 i0 e0 sd)), (t0, .inr (3, cX (kc (nI L)) t1)), (t1, .inl (G.2.1, 70, .inl sg)), (i0, .inl (G.2.2.1, 2, .inl ik))] ++ (cW aN g4)) := hD4
    refine lv_aload_n hx hb dX6_link_26 rfl (lv_at hl 0 rfl) ?_
    refine lv_iconst (v := 0) hx hb dX6_link_27 (by decide) ?_
    refine va_put (ci := 6) (v := .int 0) (ty := .int) (C := RX6) (T := TX6) (N := 9) hx hb ht inX6 tyX6 tyX6_ok nmX6 hown hK.1 hP5 hD6 hS4 0 rfl rfl 4 (by decide) (ht _ q_267) (fun _ h9 => h9) rfl (by decide +kernel) rfl rfl (Nat.le_of_ble_eq_true rfl) dX6_link_28 (fun H7 locs7 hP7 hD7 hS7 => ?_)
    have hP8 : va_P G.1 vwCl ([(h0, .inr (6, cQ (kc 0) t0 (aN 0) (aT 0) b0 s0 i0 e0 sd)), (t0, .inr (3, cX (kc (nI L)) t1)), (t1, .inl (G.2.1, 70, .inl sg)), (i0, .inl (G.2.2.1, 2, .inl ik))] ++ (cW aN g4)) H7 := hP7
    have hD9 : va_D A ([(h0, .inr (6, cQ (kc 0) t0 (aN 0) (aT 0) b0 s0 i0 e0 sd)), (t0, .inr (3, cX (kc (nI L)) t1)), (t1, .inl (G.2.1, 70, .inl sg)), (i0, .inl (G.2.2.1, 2, .inl ik))] ++ (cW aN g4)) := hD7
    refine lv_iconst (v := 0) hx hb dX6_link_31 (by decide) ?_
    refine lv_istore_n (lv' := [(1, .int 0), (0, .ref h0)]) hx hb dX6_link_32 rfl hl (by decide) rfl (fun ls10 hl10 => ?_)
    refine lv_iload_n hx hb dX6_link_33 rfl (lv_at hl10 0 rfl) ?_
    refine lv_iconst (v := 2) hx hb dX6_link_34 (by decide) ?_
    refine lv_icmp_ge (x := 0) (y := 2) (tgt := 51) hx hb dX6_link_35 (by decide) (fun (c5 : 2 ≤ 0) => absurd c5 (by decide)) (fun (c5 : ¬ (2 ≤ 0)) => ?_)
    refine lv_aload_n hx hb dX6_link_38 rfl (lv_at hl10 1 rfl) ?_
    refine va_get (ci := 6) (v := .ref i0) (C := RX6) (T := TX6) (N := 9) hx hb ht inX6 hown hK.1 hP8 0 rfl rfl 6 (by decide) (ht _ q_269) (fun _ h9 => h9) rfl dX6_link_39 ?_
    refine lv_iload_n hx hb dX6_link_42 rfl (lv_at hl10 0 rfl) ?_
    refine lv_iconst (v := 0) hx hb dX6_link_43 (by decide) ?_
    refine k_zast kx hK hP8 hD9 hS7 3 rfl 0 rfl (by decide) (by decide) rfl dX6_link_44 (fun H11 locs11 hP11 hD11 hS11 => ?_)
    have hP12 : va_P G.1 vwCl ([(h0, .inr (6, cQ (kc 0) t0 (aN 0) (aT 0) b0 s0 i0 e0 sd)), (t0, .inr (3, cX (kc (nI L)) t1)), (t1, .inl (G.2.1, 70, .inl sg)), (i0, .inl (G.2.2.1, 2, .inl (upd ik 0 0)))] ++ (cW aN g4)) H11 := hP11
    have hD13 : va_D A ([(h0, .inr (6, cQ (kc 0) t0 (aN 0) (aT 0) b0 s0 i0 e0 sd)), (t0, .inr (3, cX (kc (nI L)) t1)), (t1, .inl (G.2.1, 70, .inl sg)), (i0, .inl (G.2.2.1, 2, .inl (upd ik 0 0)))] ++ (cW aN g4)) := hD11
    refine lv_iinc (v := 1) (lv' := [(1, .int 1), (0, .ref h0)]) hx hb dX6_link_45 hl10 (k := 0) rfl (by decide +kernel) (by decide) rfl (fun ls14 hl14 => ?_)
    refine lv_goto (tgt := 33) hx hb dX6_link_48 (by decide) ?_
    refine lv_iload_n hx hb dX6_link_33 rfl (lv_at hl14 0 rfl) ?_
    refine lv_iconst (v := 2) hx hb dX6_link_34 (by decide) ?_
    refine lv_icmp_ge (x := 1) (y := 2) (tgt := 51) hx hb dX6_link_35 (by decide) (fun (c6 : 2 ≤ 1) => absurd c6 (by decide)) (fun (c6 : ¬ (2 ≤ 1)) => ?_)
    refine lv_aload_n hx hb dX6_link_38 rfl (lv_at hl14 1 rfl) ?_
    refine va_get (ci := 6) (v := .ref i0) (C := RX6) (T := TX6) (N := 9) hx hb ht inX6 hown hK.1 hP12 0 rfl rfl 6 (by decide) (ht _ q_269) (fun _ h9 => h9) rfl dX6_link_39 ?_
    refine lv_iload_n hx hb dX6_link_42 rfl (lv_at hl14 0 rfl) ?_
    refine lv_iconst (v := 0) hx hb dX6_link_43 (by decide) ?_
    refine k_zast kx hK hP12 hD13 hS11 3 rfl 1 rfl (by decide) (by decide) rfl dX6_link_44 (fun H15 locs15 hP15 hD15 hS15 => ?_)
    have hP16 : va_P G.1 vwCl ([(h0, .inr (6, cQ (kc 0) t0 (aN 0) (aT 0) b0 s0 i0 e0 sd)), (t0, .inr (3, cX (kc (nI L)) t1)), (t1, .inl (G.2.1, 70, .inl sg)), (i0, .inl (G.2.2.1, 2, .inl (upd (upd ik 0 0) 1 0)))] ++ (cW aN g4)) H15 := hP15
    have hD17 : va_D A ([(h0, .inr (6, cQ (kc 0) t0 (aN 0) (aT 0) b0 s0 i0 e0 sd)), (t0, .inr (3, cX (kc (nI L)) t1)), (t1, .inl (G.2.1, 70, .inl sg)), (i0, .inl (G.2.2.1, 2, .inl (upd (upd ik 0 0) 1 0)))] ++ (cW aN g4)) := hD15
    refine lv_iinc (v := 2) (lv' := [(1, .int 2), (0, .ref h0)]) hx hb dX6_link_45 hl14 (k := 0) rfl (by decide +kernel) (by decide) rfl (fun ls18 hl18 => ?_)
    refine lv_goto (tgt := 33) hx hb dX6_link_48 (by decide) ?_
    refine lv_iload_n hx hb dX6_link_33 rfl (lv_at hl18 0 rfl) ?_
    refine lv_iconst (v := 2) hx hb dX6_link_34 (by decide) ?_
    refine lv_icmp_ge (x := 2) (y := 2) (tgt := 51) hx hb dX6_link_35 (by decide) (fun (c7 : 2 ≤ 2) => ?_) (fun (c7 : ¬ (2 ≤ 2)) => absurd (by decide) c7)
    refine lv_aload_n hx hb dX6_link_51 rfl (lv_at hl18 1 rfl) ?_
    refine va_get (ci := 6) (v := .ref (aN 0)) (C := RX6) (T := TX6) (N := 9) hx hb ht inX6 hown hK.1 hP16 0 rfl rfl 1 (by decide) (ht _ q_264) (fun _ h9 => h9) rfl dX6_link_52 ?_
    refine va_get (ci := 5) (v := .int (g4 4 0)) (C := RX5) (T := TX5) (N := 8) hx hb ht inX5 hown hK.1 hP16 4 rfl rfl 4 (by decide) (ht _ q_217) (fun _ h9 => h9) rfl dX6_link_55 ?_
    have er : r_X6_link L sg gN = g4 4 0 := by rw [r_X6_link]; (try rw [hr1]); (try rw [hg4]); rw [if_pos c2]
    have e0 : s_X6_link_gN L sg gN = g4 := by rw [s_X6_link_gN]; (try rw [hr1]); (try rw [hg4]); rw [if_pos c2]
    have e1 : s_X6_link_ac cA L sg = kc 0 := by rw [s_X6_link_ac]; (try rw [hr1]); (try rw [hg4]); rw [if_pos c2]
    have e2 : s_X6_link_ik L sg ik = upd (upd ik 0 0) 1 0 := by rw [s_X6_link_ik]; (try rw [hr1]); (try rw [hg4]); rw [if_pos c2]
    exact k_iret kx hK hP16 hD17 hS15 (u := (g4, kc 0, upd (upd ik 0 0) 1 0)) rfl ⟨er.symm, e0.symm, e1.symm, e2.symm⟩ dX6_link_58
  · skip
    refine lv_bipush (v := (-3)) hx hb dX6_link_12 (by decide) ?_
    have er : r_X6_link L sg gN = (-3) := by rw [r_X6_link]; (try rw [hr1]); rw [if_neg c2]
    have e0 : s_X6_link_gN L sg gN = gN := by rw [s_X6_link_gN]; (try rw [hr1]); rw [if_neg c2]
    have e1 : s_X6_link_ac cA L sg = kc cA := by rw [s_X6_link_ac]; (try rw [hr1]); rw [if_neg c2]
    have e2 : s_X6_link_ik L sg ik = ik := by rw [s_X6_link_ik]; (try rw [hr1]); rw [if_neg c2]
    exact k_iret kx hK hP2 hD3 hS1 (u := (gN, kc cA, ik)) rfl ⟨er.symm, e0.symm, e1.symm, e2.symm⟩ dX6_link_14
