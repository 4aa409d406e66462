set_option maxHeartbeats 4000000 in
set_option maxRecDepth 100000 in
theorem c_X6_remember_f (l : Launch) (G : kG) (sd : Int64) (h0 : Nat) (t0 : Nat) (aN : Nat → Nat) (aT : Nat → Nat) (b0 : Nat) (s0 : Nat) (i0 : Nat) (e0 : Nat) (n9 : Nat) (pi : Nat → Nat) (aB : Nat → Nat → Nat) (gN : Nat → Nat → Int32) (gB : Nat → Nat → Nat → Int32) (hpi : ∀ i, i < 14 → pi i < 14) (h14 : n9 = 14) (hN : bW gN) : cG l G yX6_remember cX6_remember 1 none 3 [.ref h0] ([(h0, .inr (6, cQ (kc 14) t0 (aN 0) (aT 0) b0 s0 i0 e0 sd)), (b0, .inl (G.2.2.2, 14, .inr (.inr (.inr (.inr (kAO aB pi))))))] ++ (cW aN gN ++ (kWs aB gB n9))) (qV G (fun _ : Unit => True) (fun _ => [(h0, .inr (6, cQ (kc 14) t0 (aN 0) (aT 0) b0 s0 i0 e0 sd)), (b0, .inl (G.2.2.2, 14, .inr (.inr (.inr (.inr (kAO aB (kRot pi)))))))] ++ (cW aN gN ++ (kWs aB (va_up gB (kRot pi 13) gN) n9)))) := by
  refine kintro (by decide) (Nat.le_of_ble_eq_true rfl) ?_
  intro p e s m args below meth c A ls kx hK hP hD hS hA hl
  have kx : kX p s m args meth c cX6_remember 1 none RX6 := kx
  have hx := kx.1
  have hb := kx.2.1
  have hown := kx.2.2.2.2.1
  have ht := kx.2.2.2.2.2.2
  have hl : lv_has ls 1 [(0, .ref h0)] := hl
  refine lv_aload_n hx hb dX6_remember_0 rfl (lv_at hl 0 rfl) ?_
  refine va_get (ci := 6) (v := .int 14) (C := RX6) (T := TX6) (N := 9) hx hb ht inX6 hown hK.1 hP 0 rfl rfl 4 (by decide) (ht _ q_267) (fun _ h9 => h9) rfl dX6_remember_1 ?_
  refine lv_bipush (v := 14) hx hb dX6_remember_4 (by decide) ?_
  refine lv_icmp_lt (x := 14) (y := 14) (tgt := 13) hx hb dX6_remember_6 (by decide) (fun (c1 : 14 < 14) => absurd c1 (by decide)) (fun (c1 : ¬ (14 < 14)) => ?_)
  refine lv_aload_n hx hb dX6_remember_9 rfl (lv_at hl 0 rfl) ?_
  refine k_callv (kRunV (As := []) (rest := []) kx (c_X6_forgetFirstAct l G (kc 14) sd h0 t0 aN aT b0 s0 i0 e0 n9 pi aB gN gB hpi h14) q_497 q_494 q_29 q_496 q_6 nX6_forgetFirstAct ⟨Nat.le_of_ble_eq_true rfl, Nat.le_of_ble_eq_true rfl⟩ hK hP hD (kCtx_all _) 0 6 rfl rfl rfl rfl hl.1 (Nat.le_of_ble_eq_true rfl) dX6_remember_10 ⟨Nat.zero_le _, Nat.zero_le _⟩) hP hD hS hA (kCtx_all _) (fun _ => rfl) (fun _ H1 locs1 hw hP1 hD1 hS1 => ?_)
  have hP2 : va_P G.1 vwCl ([(h0, .inr (6, cQ (kc 13) t0 (aN 0) (aT 0) b0 s0 i0 e0 sd)), (b0, .inl (G.2.2.2, 14, .inr (.inr (.inr (.inr (kAO aB (kRot pi)))))))] ++ (cW aN gN ++ (kWs aB gB n9))) H1 := hP1
  have hD3 : va_D A ([(h0, .inr (6, cQ (kc 13) t0 (aN 0) (aT 0) b0 s0 i0 e0 sd)), (b0, .inl (G.2.2.2, 14, .inr (.inr (.inr (.inr (kAO aB (kRot pi)))))))] ++ (cW aN gN ++ (kWs aB gB n9))) := hD1
  refine lv_aload_n hx hb dX6_remember_13 rfl (lv_at hl 0 rfl) ?_
  refine va_get (ci := 6) (v := .ref b0) (C := RX6) (T := TX6) (N := 9) hx hb ht inX6 hown hK.1 hP2 0 rfl rfl 3 (by decide) (ht _ q_266) (fun _ h9 => h9) rfl dX6_remember_14 ?_
  refine lv_aload_n hx hb dX6_remember_17 rfl (lv_at hl 0 rfl) ?_
  refine va_get (ci := 6) (v := .int 13) (C := RX6) (T := TX6) (N := 9) hx hb ht inX6 hown hK.1 hP2 0 rfl rfl 4 (by decide) (ht _ q_267) (fun _ h9 => h9) rfl dX6_remember_18 ?_
  refine k_aald (v := (aB (kRot pi 13)) 0) kx hK hP2 1 rfl 13 rfl (by decide) (by decide) rfl dX6_remember_21 ?_
  refine lv_aload_n hx hb dX6_remember_22 rfl (lv_at hl 0 rfl) ?_
  refine va_get (ci := 6) (v := .ref (aN 0)) (C := RX6) (T := TX6) (N := 9) hx hb ht inX6 hown hK.1 hP2 0 rfl rfl 1 (by decide) (ht _ q_264) (fun _ h9 => h9) rfl dX6_remember_23 ?_
  have hP4 : va_P G.1 vwCl ([(h0, .inr (6, cQ (kc 13) t0 (aN 0) (aT 0) b0 s0 i0 e0 sd)), (b0, .inl (G.2.2.2, 14, .inr (.inr (.inr (.inr (kAO aB (kRot pi)))))))] ++ (cW aN gN ++ (cW (aB (kRot pi 13)) (gB (kRot pi 13)) ++ (kWsO aB gB (kRot pi 13) n9)))) _ := kP_perm (List.Perm.append_left _ (List.Perm.append_left _ (kWs_open (lt14 h14 (kRot_lt hpi 13 (by decide)))))) hP2
  have hD5 : va_D A ([(h0, .inr (6, cQ (kc 13) t0 (aN 0) (aT 0) b0 s0 i0 e0 sd)), (b0, .inl (G.2.2.2, 14, .inr (.inr (.inr (.inr (kAO aB (kRot pi)))))))] ++ (cW aN gN ++ (cW (aB (kRot pi 13)) (gB (kRot pi 13)) ++ (kWsO aB gB (kRot pi 13) n9)))) := kD_perm (List.Perm.append_left _ (List.Perm.append_left _ (kWs_open (lt14 h14 (kRot_lt hpi 13 (by decide)))))) hD3
  refine k_callv (kRunV (As := [.ref (aN 0)]) (rest := []) kx (c_X5_copyFrom l G (gB (kRot pi 13)) gN (aB (kRot pi 13)) aN hN) q_439 q_436 q_31 q_437 q_438 nX5_copyFrom ⟨Nat.le_of_ble_eq_true rfl, Nat.le_of_ble_eq_true rfl⟩ hK hP4 hD5 (kCtx_in (kCtx_swap _ _ _)) 0 5 rfl rfl rfl rfl hl.1 (Nat.le_of_ble_eq_true rfl) dX6_remember_26 ⟨Nat.zero_le _, Nat.zero_le _⟩) hP4 hD5 hS1 hA (kCtx_in (kCtx_swap _ _ _)) (fun _ => rfl) (fun _ H6 locs6 hw hP6 hD6 hS6 => ?_)
  have hP7 : va_P G.1 vwCl ([(h0, .inr (6, cQ (kc 13) t0 (aN 0) (aT 0) b0 s0 i0 e0 sd)), (b0, .inl (G.2.2.2, 14, .inr (.inr (.inr (.inr (kAO aB (kRot pi)))))))] ++ (cW aN gN ++ (cW (aB (kRot pi 13)) gN ++ (kWsO aB gB (kRot pi 13) n9)))) H6 := hP6
  have hD8 : va_D A ([(h0, .inr (6, cQ (kc 13) t0 (aN 0) (aT 0) b0 s0 i0 e0 sd)), (b0, .inl (G.2.2.2, 14, .inr (.inr (.inr (.inr (kAO aB (kRot pi)))))))] ++ (cW aN gN ++ (cW (aB (kRot pi 13)) gN ++ (kWsO aB gB (kRot pi 13) n9)))) := hD6
  have hP9 : va_P G.1 vwCl ([(h0, .inr (6, cQ (kc 13) t0 (aN 0) (aT 0) b0 s0 i0 e0 sd)), (b0, .inl (G.2.2.2, 14, .inr (.inr (.inr (.inr (kAO aB (kRot pi)))))))] ++ (cW aN gN ++ (kWs aB (va_up gB (kRot pi 13) gN) n9))) _ := kP_perm (List.Perm.append_left _ (List.Perm.append_left _ (kWs_close (lt14 h14 (kRot_lt hpi 13 (by decide)))))) hP7
  have hD10 : va_D A ([(h0, .inr (6, cQ (kc 13) t0 (aN 0) (aT 0) b0 s0 i0 e0 sd)), (b0, .inl (G.2.2.2, 14, .inr (.inr (.inr (.inr (kAO aB (kRot pi)))))))] ++ (cW aN gN ++ (kWs aB (va_up gB (kRot pi 13) gN) n9))) := kD_perm (List.Perm.append_left _ (List.Perm.append_left _ (kWs_close (lt14 h14 (kRot_lt hpi 13 (by decide)))))) hD8
  refine lv_aload_n hx hb dX6_remember_29 rfl (lv_at hl 0 rfl) ?_
  refine lv_dup hx hb dX6_remember_30 rfl ?_
  refine va_get (ci := 6) (v := .int 13) (C := RX6) (T := TX6) (N := 9) hx hb ht inX6 hown hK.1 hP9 0 rfl rfl 4 (by decide) (ht _ q_267) (fun _ h9 => h9) rfl dX6_remember_31 ?_
  refine lv_iconst (v := 1) hx hb dX6_remember_34 (by decide) ?_
  refine lv_iadd hx hb dX6_remember_35 ?_
  refine k_top (y := 14) (by decide +kernel) ?_
  refine va_put (ci := 6) (v := .int 14) (ty := .int) (C := RX6) (T := TX6) (N := 9) hx hb ht inX6 tyX6 tyX6_ok nmX6 hown hK.1 hP9 hD10 hS6 0 rfl rfl 4 (by decide) (ht _ q_267) (fun _ h9 => h9) rfl (by decide +kernel) rfl rfl (Nat.le_of_ble_eq_true rfl) dX6_remember_36 (fun H11 locs11 hP11 hD11 hS11 => ?_)
  have hP12 : va_P G.1 vwCl ([(h0, .inr (6, cQ (kc 14) t0 (aN 0) (aT 0) b0 s0 i0 e0 sd)), (b0, .inl (G.2.2.2, 14, .inr (.inr (.inr (.inr (kAO aB (kRot pi)))))))] ++ (cW aN gN ++ (kWs aB (va_up gB (kRot pi 13) gN) n9))) H11 := hP11
  have hD13 : va_D A ([(h0, .inr (6, cQ (kc 14) t0 (aN 0) (aT 0) b0 s0 i0 e0 sd)), (b0, .inl (G.2.2.2, 14, .inr (.inr (.inr (.inr (kAO aB (kRot pi)))))))] ++ (cW aN gN ++ (kWs aB (va_up gB (kRot pi 13) gN) n9))) := hD11
  exact k_vret kx hK hP12 hD13 hS11 (u := ()) rfl trivial dX6_remember_39

set_option maxHeartbeats 4000000 in
set_option maxRecDepth 100000 in
theorem c_X6_remember_d (l : Launch) (G : kG) (d : Nat) (sd : Int64) (h0 : Nat) (t0 : Nat) (aN : Nat → Nat) (aT : Nat → Nat) (b0 : Nat) (s0 : Nat) (i0 : Nat) (e0 : Nat) (n9 : Nat) (pi : Nat → Nat) (aB : Nat → Nat → Nat) (gN : Nat → Nat → Int32) (gB : Nat → Nat → Nat → Int32) (hd : d < 14) (hpi : ∀ i, i < 14 → pi i < 14) (h14 : n9 = 14) (hN : bW gN) : cG l G yX6_remember cX6_remember 1 none 3 [.ref h0] ([(h0, .inr (6, cQ (kc (nI d)) t0 (aN 0) (aT 0) b0 s0 i0 e0 sd)), (b0, .inl (G.2.2.2, 14, .inr (.inr (.inr (.inr (kAO aB pi))))))] ++ (cW aN gN ++ (kWs aB gB n9))) (qV G (fun _ : Unit => True) (fun _ => [(h0, .inr (6, cQ (kc ((nI d) + 1)) t0 (aN 0) (aT 0) b0 s0 i0 e0 sd)), (b0, .inl (G.2.2.2, 14, .inr (.inr (.inr (.inr (kAO aB pi))))))] ++ (cW aN gN ++ (kWs aB (va_up gB (pi d) gN) n9)))) := by
  refine kintro (by decide) (Nat.le_of_ble_eq_true rfl) ?_
  intro p e s m args below meth c A ls kx hK hP hD hS hA hl
  have kx : kX p s m args meth c cX6_remember 1 none RX6 := kx
  have hx := kx.1
  have hb := kx.2.1
  have hown := kx.2.2.2.2.1
  have ht := kx.2.2.2.2.2.2
  have hl : lv_has ls 1 [(0, .ref h0)] := hl
  refine lv_aload_n hx hb dX6_remember_0 rfl (lv_at hl 0 rfl) ?_
  refine va_get (ci := 6) (v := .int (nI d)) (C := RX6) (T := TX6) (N := 9) hx hb ht inX6 hown hK.1 hP 0 rfl rfl 4 (by decide) (ht _ q_267) (fun _ h9 => h9) rfl dX6_remember_1 ?_
  refine lv_bipush (v := 14) hx hb dX6_remember_4 (by decide) ?_
  refine lv_icmp_lt (x := nI d) (y := 14) (tgt := 13) hx hb dX6_remember_6 (by decide) (fun (c1 : nI d < 14) => ?_) (fun (c1 : ¬ (nI d < 14)) => absurd (show nI d < nI 14 from nI_lt hd (by decide)) c1)
  refine lv_aload_n hx hb dX6_remember_13 rfl (lv_at hl 0 rfl) ?_
  refine va_get (ci := 6) (v := .ref b0) (C := RX6) (T := TX6) (N := 9) hx hb ht inX6 hown hK.1 hP 0 rfl rfl 3 (by decide) (ht _ q_266) (fun _ h9 => h9) rfl dX6_remember_14 ?_
  refine lv_aload_n hx hb dX6_remember_17 rfl (lv_at hl 0 rfl) ?_
  refine va_get (ci := 6) (v := .int (nI d)) (C := RX6) (T := TX6) (N := 9) hx hb ht inX6 hown hK.1 hP 0 rfl rfl 4 (by decide) (ht _ q_267) (fun _ h9 => h9) rfl dX6_remember_18 ?_
  refine k_aald (v := (aB (pi d)) 0) kx hK hP 1 rfl d rfl (by omega) (by decide) rfl dX6_remember_21 ?_
  refine lv_aload_n hx hb dX6_remember_22 rfl (lv_at hl 0 rfl) ?_
  refine va_get (ci := 6) (v := .ref (aN 0)) (C := RX6) (T := TX6) (N := 9) hx hb ht inX6 hown hK.1 hP 0 rfl rfl 1 (by decide) (ht _ q_264) (fun _ h9 => h9) rfl dX6_remember_23 ?_
  have hP1 : va_P G.1 vwCl ([(h0, .inr (6, cQ (kc (nI d)) t0 (aN 0) (aT 0) b0 s0 i0 e0 sd)), (b0, .inl (G.2.2.2, 14, .inr (.inr (.inr (.inr (kAO aB pi))))))] ++ (cW aN gN ++ (cW (aB (pi d)) (gB (pi d)) ++ (kWsO aB gB (pi d) n9)))) _ := kP_perm (List.Perm.append_left _ (List.Perm.append_left _ (kWs_open (lt14 h14 (hpi d hd))))) hP
  have hD2 : va_D A ([(h0, .inr (6, cQ (kc (nI d)) t0 (aN 0) (aT 0) b0 s0 i0 e0 sd)), (b0, .inl (G.2.2.2, 14, .inr (.inr (.inr (.inr (kAO aB pi))))))] ++ (cW aN gN ++ (cW (aB (pi d)) (gB (pi d)) ++ (kWsO aB gB (pi d) n9)))) := kD_perm (List.Perm.append_left _ (List.Perm.append_left _ (kWs_open (lt14 h14 (hpi d hd))))) hD
  refine k_callv (kRunV (As := [.ref (aN 0)]) (rest := []) kx (c_X5_copyFrom l G (gB (pi d)) gN (aB (pi d)) aN hN) q_439 q_436 q_31 q_437 q_438 nX5_copyFrom ⟨Nat.le_of_ble_eq_true rfl, Nat.le_of_ble_eq_true rfl⟩ hK hP1 hD2 (kCtx_in (kCtx_swap _ _ _)) 0 5 rfl rfl rfl rfl hl.1 (Nat.le_of_ble_eq_true rfl) dX6_remember_26 ⟨Nat.zero_le _, Nat.zero_le _⟩) hP1 hD2 hS hA (kCtx_in (kCtx_swap _ _ _)) (fun _ => rfl) (fun _ H3 locs3 hw hP3 hD3 hS3 => ?_)
  have hP4 : va_P G.1 vwCl ([(h0, .inr (6, cQ (kc (nI d)) t0 (aN 0) (aT 0) b0 s0 i0 e0 sd)), (b0, .inl (G.2.2.2, 14, .inr (.inr (.inr (.inr (kAO aB pi))))))] ++ (cW aN gN ++ (cW (aB (pi d)) gN ++ (kWsO aB gB (pi d) n9)))) H3 := hP3
  have hD5 : va_D A ([(h0, .inr (6, cQ (kc (nI d)) t0 (aN 0) (aT 0) b0 s0 i0 e0 sd)), (b0, .inl (G.2.2.2, 14, .inr (.inr (.inr (.inr (kAO aB pi))))))] ++ (cW aN gN ++ (cW (aB (pi d)) gN ++ (kWsO aB gB (pi d) n9)))) := hD3
  have hP6 : va_P G.1 vwCl ([(h0, .inr (6, cQ (kc (nI d)) t0 (aN 0) (aT 0) b0 s0 i0 e0 sd)), (b0, .inl (G.2.2.2, 14, .inr (.inr (.inr (.inr (kAO aB pi))))))] ++ (cW aN gN ++ (kWs aB (va_up gB (pi d) gN) n9))) _ := kP_perm (List.Perm.append_left _ (List.Perm.append_left _ (kWs_close (lt14 h14 (hpi d hd))))) hP4
  have hD7 : va_D A ([(h0, .inr (6, cQ (kc (nI d)) t0 (aN 0) (aT 0) b0 s0 i0 e0 sd)), (b0, .inl (G.2.2.2, 14, .inr (.inr (.inr (.inr (kAO aB pi))))))] ++ (cW aN gN ++ (kWs aB (va_up gB (pi d) gN) n9))) := kD_perm (List.Perm.append_left _ (List.Perm.append_left _ (kWs_close (lt14 h14 (hpi d hd))))) hD5
  refine lv_aload_n hx hb dX6_remember_29 rfl (lv_at hl 0 rfl) ?_
  refine lv_dup hx hb dX6_remember_30 rfl ?_
  refine va_get (ci := 6) (v := .int (nI d)) (C := RX6) (T := TX6) (N := 9) hx hb ht inX6 hown hK.1 hP6 0 rfl rfl 4 (by decide) (ht _ q_267) (fun _ h9 => h9) rfl dX6_remember_31 ?_
  refine lv_iconst (v := 1) hx hb dX6_remember_34 (by decide) ?_
  refine lv_iadd hx hb dX6_remember_35 ?_
  refine va_put (ci := 6) (v := .int ((nI d) + 1)) (ty := .int) (C := RX6) (T := TX6) (N := 9) hx hb ht inX6 tyX6 tyX6_ok nmX6 hown hK.1 hP6 hD7 hS3 0 rfl rfl 4 (by decide) (ht _ q_267) (fun _ h9 => h9) rfl (by decide +kernel) rfl rfl (Nat.le_of_ble_eq_true rfl) dX6_remember_36 (fun H8 locs8 hP8 hD8 hS8 => ?_)
  have hP9 : va_P G.1 vwCl ([(h0, .inr (6, cQ (kc ((nI d) + 1)) t0 (aN 0) (aT 0) b0 s0 i0 e0 sd)), (b0, .inl (G.2.2.2, 14, .inr (.inr (.inr (.inr (kAO aB pi))))))] ++ (cW aN gN ++ (kWs aB (va_up gB (pi d) gN) n9))) H8 := hP8
  have hD10 : va_D A ([(h0, .inr (6, cQ (kc ((nI d) + 1)) t0 (aN 0) (aT 0) b0 s0 i0 e0 sd)), (b0, .inl (G.2.2.2, 14, .inr (.inr (.inr (.inr (kAO aB pi))))))] ++ (cW aN gN ++ (kWs aB (va_up gB (pi d) gN) n9))) := hD8
  exact k_vret kx hK hP9 hD10 hS8 (u := ()) rfl trivial dX6_remember_39

theorem kPi_last {d : Nat} {pi : Nat → Nat} (h : ∀ i, i < 14 → pi i < 14) (hd : d ≤ 14) : kPi d pi (kNoteD d - 1) < 14 := kPi_lt h _ (by unfold kNoteD; split <;> omega)
set_option maxHeartbeats 4000000 in
set_option maxRecDepth 100000 in
theorem c_X6_remember (l : Launch) (G : kG) (d : Nat) (sd : Int64) (h0 : Nat) (t0 : Nat) (aN : Nat → Nat) (aT : Nat → Nat) (b0 : Nat) (s0 : Nat) (i0 : Nat) (e0 : Nat) (n9 : Nat) (pi : Nat → Nat) (aB : Nat → Nat → Nat) (gN : Nat → Nat → Int32) (gB : Nat → Nat → Nat → Int32) (hd : d ≤ 14) (hpi : ∀ i, i < 14 → pi i < 14) (h14 : n9 = 14) (hN : bW gN) : cG l G yX6_remember cX6_remember 1 none 3 [.ref h0] ([(h0, .inr (6, cQ (kc (nI d)) t0 (aN 0) (aT 0) b0 s0 i0 e0 sd)), (b0, .inl (G.2.2.2, 14, .inr (.inr (.inr (.inr (kAO aB pi))))))] ++ (cW aN gN ++ (kWs aB gB n9))) (qV G (fun _ : Unit => True) (fun _ => [(h0, .inr (6, cQ (kc (nI (kNoteD d))) t0 (aN 0) (aT 0) b0 s0 i0 e0 sd)), (b0, .inl (G.2.2.2, 14, .inr (.inr (.inr (.inr (kAO aB (kPi d pi)))))))] ++ (cW aN gN ++ (kWs aB (va_up gB (kPi d pi (kNoteD d - 1)) gN) n9)))) := by
  by_cases h : d = 14
  · subst h
    exact c_X6_remember_f l G sd h0 t0 aN aT b0 s0 i0 e0 n9 pi aB gN gB hpi h14 hN
  · have e1 : nI (kNoteD d) = nI d + 1 := by rw [kNoteD, if_neg h]; exact (nI_1 d).symm
    have e2 : kPi d pi = pi := if_neg h
    have e3 : kNoteD d - 1 = d := by rw [kNoteD, if_neg h]; omega
    rw [e1, e2, e3]
    exact c_X6_remember_d l G d sd h0 t0 aN aT b0 s0 i0 e0 n9 pi aB gN gB (by omega) hpi h14 hN
