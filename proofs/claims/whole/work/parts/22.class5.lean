def l_X3_layOut_1_g (sg : Nat → Int32) : Nat → Nat → Int32 → (Nat → Nat → Int32) → Nat → Nat → Int32
  | 0, j1, ev_1, g_1 => g_1
  | n1 + 1, j1, ev_1, g_1 => if ev_1 = 100 then (if (sg j1) - 48 = 0 then (if sg j1 = 100 then (l_X3_layOut_1_g sg n1 (j1 + 1) (sg j1) (kg (s_X0_turnDemand_X (g_1 0)) (g_1 1) (g_1 2) (g_1 3) (g_1 4))) else if sg j1 = 119 then (l_X3_layOut_1_g sg n1 (j1 + 1) (sg j1) (kg (s_X0_turnDemand_X (g_1 0)) (g_1 1) (g_1 2) (g_1 3) (g_1 4))) else l_X3_layOut_1_g sg n1 (j1 + 1) 0 (kg (s_X0_turnDemand_X (g_1 0)) (g_1 1) (g_1 2) (g_1 3) (g_1 4))) else if sg j1 = 100 then (l_X3_layOut_1_g sg n1 (j1 + 1) (sg j1) (kg (g_1 0) (s_X0_turnDemand_X (g_1 1)) (g_1 2) (g_1 3) (g_1 4))) else if sg j1 = 119 then (l_X3_layOut_1_g sg n1 (j1 + 1) (sg j1) (kg (g_1 0) (s_X0_turnDemand_X (g_1 1)) (g_1 2) (g_1 3) (g_1 4))) else l_X3_layOut_1_g sg n1 (j1 + 1) 0 (kg (g_1 0) (s_X0_turnDemand_X (g_1 1)) (g_1 2) (g_1 3) (g_1 4))) else if ev_1 = 119 then (if (sg j1) - 48 = 0 then (if sg j1 = 100 then (l_X3_layOut_1_g sg n1 (j1 + 1) (sg j1) (kg (g_1 0) (g_1 1) (s_X4_turnOver_Y (g_1 2)) (g_1 3) (g_1 4))) else if sg j1 = 119 then (l_X3_layOut_1_g sg n1 (j1 + 1) (sg j1) (kg (g_1 0) (g_1 1) (s_X4_turnOver_Y (g_1 2)) (g_1 3) (g_1 4))) else l_X3_layOut_1_g sg n1 (j1 + 1) 0 (kg (g_1 0) (g_1 1) (s_X4_turnOver_Y (g_1 2)) (g_1 3) (g_1 4))) else if sg j1 = 100 then (l_X3_layOut_1_g sg n1 (j1 + 1) (sg j1) (kg (g_1 0) (g_1 1) (g_1 2) (s_X4_turnOver_Y (g_1 3)) (g_1 4))) else if sg j1 = 119 then (l_X3_layOut_1_g sg n1 (j1 + 1) (sg j1) (kg (g_1 0) (g_1 1) (g_1 2) (s_X4_turnOver_Y (g_1 3)) (g_1 4))) else l_X3_layOut_1_g sg n1 (j1 + 1) 0 (kg (g_1 0) (g_1 1) (g_1 2) (s_X4_turnOver_Y (g_1 3)) (g_1 4))) else if sg j1 = 100 then (l_X3_layOut_1_g sg n1 (j1 + 1) (sg j1) g_1) else if sg j1 = 119 then (l_X3_layOut_1_g sg n1 (j1 + 1) (sg j1) g_1) else l_X3_layOut_1_g sg n1 (j1 + 1) 0 (s_X5_run_g g_1 ((sg j1) - 48))
def s_X3_layOut_g (L : Nat) (sg : Nat → Int32) (g : Nat → Nat → Int32) : Nat → Nat → Int32 := l_X3_layOut_1_g sg (L - 7) 7 0 (kg (s_X0_takeSetting_X (s_X0_takeSetting_X (s_X0_takeSetting_X (upd (upd (upd (upd (upd (upd (upd (upd (upd (upd (upd (upd (upd (upd (upd (upd (g 0) 0 1) 1 1) 2 1) 3 1) 4 1) 5 0) 8 0) 9 0) 6 0) 7 0) 10 0) 11 0) 12 1) 13 1) 14 1) 15 0) 0 ((sg 1) - 48)) 1 ((sg 2) - 48)) 2 ((sg 3) - 48)) (s_X0_takeSetting_X (s_X0_takeSetting_X (s_X0_takeSetting_X (upd (upd (upd (upd (upd (upd (upd (upd (upd (upd (upd (upd (upd (upd (upd (upd (g 1) 0 1) 1 1) 2 1) 3 1) 4 1) 5 0) 8 0) 9 0) 6 0) 7 0) 10 0) 11 0) 12 1) 13 1) 14 1) 15 0) 0 ((sg 4) - 48)) 1 ((sg 5) - 48)) 2 ((sg 6) - 48)) (upd (upd (upd (upd (upd (upd (upd (upd (upd (upd (upd (g 2) 9 1) 0 0) 6 0) 7 0) 8 0) 10 0) 1 0) 2 1) 3 1) 4 1) 5 0) (upd (upd (upd (upd (upd (upd (upd (upd (upd (upd (upd (g 3) 9 1) 0 0) 6 0) 7 0) 8 0) 10 0) 1 0) 2 1) 3 1) 4 1) 5 0) (upd (upd (upd (upd (g 4) 0 0) 1 0) 2 0) 3 0))
set_option maxHeartbeats 4000000 in
set_option maxRecDepth 100000 in
theorem c_X3_layOut (l : Launch) (G : kG) (L : Nat) (sg : Nat → Int32) (h0 : Nat) (h1 : Nat) (g : Nat → Nat → Int32) (a : Nat → Nat) (hL7 : 7 ≤ L) (hL : L ≤ 70) : cG l G yX3_layOut cX3_layOut 5 none 5 [.ref h0, .ref (a 0)] ([(h0, .inr (3, cX (kc (nI L)) h1)), (h1, .inl (G.2.1, 70, .inl sg))] ++ (cW a g)) (qV G (fun u : (Nat → Nat → Int32) => u = s_X3_layOut_g L sg g) (fun u => [(h0, .inr (3, cX (kc (nI L)) h1)), (h1, .inl (G.2.1, 70, .inl sg))] ++ (cW a u))) := by
  refine kintro (by decide) (Nat.le_of_ble_eq_true rfl) ?_
  intro p e s m args below meth c A ls kx hK hP hD hS hA hl
  have kx : kX p s m args meth c cX3_layOut 5 none RX3 := kx
  have hx := kx.1
  have hb := kx.2.1
  have hown := kx.2.2.2.2.1
  have ht := kx.2.2.2.2.2.2
  have hl : lv_has ls 5 [(0, .ref h0), (1, .ref (a 0))] := hl
  refine lv_aload_n hx hb dX3_layOut_0 rfl (lv_at hl 1 rfl) ?_
  refine k_callv (kRunV (As := []) (rest := []) kx (c_X5_reset l G g a) q_194 q_325 q_31 q_192 q_193 nX5_reset ⟨Nat.le_of_ble_eq_true rfl, Nat.le_of_ble_eq_true rfl⟩ hK hP hD (kCtx_end _ _) 0 5 rfl rfl rfl rfl hl.1 (Nat.le_of_ble_eq_true rfl) dX3_layOut_1 ⟨Nat.zero_le _, Nat.zero_le _⟩) hP hD hS hA (kCtx_end _ _) (fun _ => rfl) (fun _ H1 locs1 hw hP1 hD1 hS1 => ?_)
  have hP2 : va_P G.1 vwCl ([(h0, .inr (3, cX (kc (nI L)) h1)), (h1, .inl (G.2.1, 70, .inl sg))] ++ (cW a (kg (upd (upd (upd (upd (upd (upd (upd (upd (upd (upd (upd (upd (upd (upd (upd (upd (g 0) 0 1) 1 1) 2 1) 3 1) 4 1) 5 0) 8 0) 9 0) 6 0) 7 0) 10 0) 11 0) 12 1) 13 1) 14 1) 15 0) (upd (upd (upd (upd (upd (upd (upd (upd (upd (upd (upd (upd (upd (upd (upd (upd (g 1) 0 1) 1 1) 2 1) 3 1) 4 1) 5 0) 8 0) 9 0) 6 0) 7 0) 10 0) 11 0) 12 1) 13 1) 14 1) 15 0) (upd (upd (upd (upd (upd (upd (upd (upd (upd (upd (upd (g 2) 9 1) 0 0) 6 0) 7 0) 8 0) 10 0) 1 0) 2 1) 3 1) 4 1) 5 0) (upd (upd (upd (upd (upd (upd (upd (upd (upd (upd (upd (g 3) 9 1) 0 0) 6 0) 7 0) 8 0) 10 0) 1 0) 2 1) 3 1) 4 1) 5 0) (upd (upd (upd (upd (g 4) 0 0) 1 0) 2 0) 3 0)))) H1 := hP1
  have hD3 : va_D A ([(h0, .inr (3, cX (kc (nI L)) h1)), (h1, .inl (G.2.1, 70, .inl sg))] ++ (cW a (kg (upd (upd (upd (upd (upd (upd (upd (upd (upd (upd (upd (upd (upd (upd (upd (upd (g 0) 0 1) 1 1) 2 1) 3 1) 4 1) 5 0) 8 0) 9 0) 6 0) 7 0) 10 0) 11 0) 12 1) 13 1) 14 1) 15 0) (upd (upd (upd (upd (upd (upd (upd (upd (upd (upd (upd (upd (upd (upd (upd (upd (g 1) 0 1) 1 1) 2 1) 3 1) 4 1) 5 0) 8 0) 9 0) 6 0) 7 0) 10 0) 11 0) 12 1) 13 1) 14 1) 15 0) (upd (upd (upd (upd (upd (upd (upd (upd (upd (upd (upd (g 2) 9 1) 0 0) 6 0) 7 0) 8 0) 10 0) 1 0) 2 1) 3 1) 4 1) 5 0) (upd (upd (upd (upd (upd (upd (upd (upd (upd (upd (upd (g 3) 9 1) 0 0) 6 0) 7 0) 8 0) 10 0) 1 0) 2 1) 3 1) 4 1) 5 0) (upd (upd (upd (upd (g 4) 0 0) 1 0) 2 0) 3 0)))) := hD1
  refine lv_iconst (v := 1) hx hb dX3_layOut_4 (by decide) ?_
  refine lv_istore_n (lv' := [(2, .int 1), (0, .ref h0), (1, .ref (a 0))]) hx hb dX3_layOut_5 rfl hl (by decide) rfl (fun ls4 hl4 => ?_)
  refine lv_iload_n hx hb dX3_layOut_6 rfl (lv_at hl4 0 rfl) ?_
  refine lv_bipush (v := 7) hx hb dX3_layOut_7 (by decide) ?_
  refine lv_icmp_ge (x := 1) (y := 7) (tgt := 44) hx hb dX3_layOut_9 (by decide) (fun (c2 : 7 ≤ 1) => absurd c2 (by decide)) (fun (c2 : ¬ (7 ≤ 1)) => ?_)
  refine lv_aload_n hx hb dX3_layOut_12 rfl (lv_at hl4 2 rfl) ?_
  refine lv_iload_n hx hb dX3_layOut_13 rfl (lv_at hl4 0 rfl) ?_
  refine lv_iconst (v := 1) hx hb dX3_layOut_14 (by decide) ?_
  refine lv_isub hx hb dX3_layOut_15 ?_
  refine k_top (y := 0) (by decide +kernel) ?_
  refine lv_iconst (v := 3) hx hb dX3_layOut_16 (by decide) ?_
  refine lv_idiv hx hb dX3_layOut_17 (by decide) ?_
  refine k_top (y := 0) (by decide +kernel) ?_
  refine k_callr (kRunV (As := [.int 0]) (rest := []) kx (c_X5_endOf_0 l G (upd (upd (upd (upd (g 4) 0 0) 1 0) 2 0) 3 0) (a 0) (a 1) (a 3) (a 5) (a 7)) q_329 q_326 q_31 q_327 q_328 nX5_endOf ⟨Nat.le_of_ble_eq_true rfl, Nat.le_of_ble_eq_true rfl⟩ hK hP2 hD3 (kCtx_places _ _ [2] rfl rfl) 0 5 rfl rfl rfl rfl hl4.1 (Nat.le_of_ble_eq_true rfl) dX3_layOut_18 ⟨Nat.zero_le _, Nat.zero_le _⟩) hP2 hD3 hS1 hA (kCtx_places _ _ [2] rfl rfl) (fun _ => rfl) (fun r3 _ H5 locs5 hw hP5 hD5 hS5 => ?_)
  have hr3 : a 1 = r3 := (show r3 = a 1 from hw).symm
  subst hr3
  have hP6 : va_P G.1 vwCl ([(h0, .inr (3, cX (kc (nI L)) h1)), (h1, .inl (G.2.1, 70, .inl sg))] ++ (cW a (kg (upd (upd (upd (upd (upd (upd (upd (upd (upd (upd (upd (upd (upd (upd (upd (upd (g 0) 0 1) 1 1) 2 1) 3 1) 4 1) 5 0) 8 0) 9 0) 6 0) 7 0) 10 0) 11 0) 12 1) 13 1) 14 1) 15 0) (upd (upd (upd (upd (upd (upd (upd (upd (upd (upd (upd (upd (upd (upd (upd (upd (g 1) 0 1) 1 1) 2 1) 3 1) 4 1) 5 0) 8 0) 9 0) 6 0) 7 0) 10 0) 11 0) 12 1) 13 1) 14 1) 15 0) (upd (upd (upd (upd (upd (upd (upd (upd (upd (upd (upd (g 2) 9 1) 0 0) 6 0) 7 0) 8 0) 10 0) 1 0) 2 1) 3 1) 4 1) 5 0) (upd (upd (upd (upd (upd (upd (upd (upd (upd (upd (upd (g 3) 9 1) 0 0) 6 0) 7 0) 8 0) 10 0) 1 0) 2 1) 3 1) 4 1) 5 0) (upd (upd (upd (upd (g 4) 0 0) 1 0) 2 0) 3 0)))) H5 := hP5
  have hD7 : va_D A ([(h0, .inr (3, cX (kc (nI L)) h1)), (h1, .inl (G.2.1, 70, .inl sg))] ++ (cW a (kg (upd (upd (upd (upd (upd (upd (upd (upd (upd (upd (upd (upd (upd (upd (upd (upd (g 0) 0 1) 1 1) 2 1) 3 1) 4 1) 5 0) 8 0) 9 0) 6 0) 7 0) 10 0) 11 0) 12 1) 13 1) 14 1) 15 0) (upd (upd (upd (upd (upd (upd (upd (upd (upd (upd (upd (upd (upd (upd (upd (upd (g 1) 0 1) 1 1) 2 1) 3 1) 4 1) 5 0) 8 0) 9 0) 6 0) 7 0) 10 0) 11 0) 12 1) 13 1) 14 1) 15 0) (upd (upd (upd (upd (upd (upd (upd (upd (upd (upd (upd (g 2) 9 1) 0 0) 6 0) 7 0) 8 0) 10 0) 1 0) 2 1) 3 1) 4 1) 5 0) (upd (upd (upd (upd (upd (upd (upd (upd (upd (upd (upd (g 3) 9 1) 0 0) 6 0) 7 0) 8 0) 10 0) 1 0) 2 1) 3 1) 4 1) 5 0) (upd (upd (upd (upd (g 4) 0 0) 1 0) 2 0) 3 0)))) := hD5
  refine lv_iload_n hx hb dX3_layOut_21 rfl (lv_at hl4 0 rfl) ?_
  refine lv_iconst (v := 1) hx hb dX3_layOut_22 (by decide) ?_
  refine lv_isub hx hb dX3_layOut_23 ?_
  refine k_top (y := 0) (by decide +kernel) ?_
  refine lv_iconst (v := 3) hx hb dX3_layOut_24 (by decide) ?_
  refine lv_irem hx hb dX3_layOut_25 (by decide) ?_
  refine k_top (y := 0) (by decide +kernel) ?_
  refine lv_aload_n hx hb dX3_layOut_26 rfl (lv_at hl4 1 rfl) ?_
  refine va_get (ci := 3) (v := .ref h1) (C := RX3) (T := TX3) (N := 2) hx hb ht inX3 hown hK.1 hP6 0 rfl rfl 0 (by decide) (ht _ q_53) (fun _ h9 => h9) rfl dX3_layOut_27 ?_
  refine lv_iload_n hx hb dX3_layOut_30 rfl (lv_at hl4 0 rfl) ?_
  refine k_iald (v := (sg 1)) kx hK hP6 1 rfl 1 rfl (by decide) (by decide) rfl dX3_layOut_31 ?_
  refine lv_bipush (v := 48) hx hb dX3_layOut_32 (by decide) ?_
  refine lv_isub hx hb dX3_layOut_34 ?_
  refine k_callv (kRunV (As := [.int 0, .int ((sg 1) - 48)]) (rest := []) kx (c_X0_takeSetting l G (upd (upd (upd (upd (upd (upd (upd (upd (upd (upd (upd (upd (upd (upd (upd (upd (g 0) 0 1) 1 1) 2 1) 3 1) 4 1) 5 0) 8 0) 9 0) 6 0) 7 0) 10 0) 11 0) 12 1) 13 1) 14 1) 15 0) (a 1) (a 2) 0 ((sg 1) - 48)) q_333 q_330 q_32 q_331 q_332 nX0_takeSetting ⟨Nat.le_of_ble_eq_true rfl, Nat.le_of_ble_eq_true rfl⟩ hK hP6 hD7 (kCtx_places _ _ [3, 4] rfl rfl) 0 0 rfl rfl rfl rfl hl4.1 (Nat.le_of_ble_eq_true rfl) dX3_layOut_35 ⟨Nat.zero_le _, Nat.zero_le _⟩) hP6 hD7 hS5 hA (kCtx_places _ _ [3, 4] rfl rfl) (fun _ => rfl) (fun F5 H8 locs8 hw hP8 hD8 hS8 => ?_)
  have hF5 : s_X0_takeSetting_X (upd (upd (upd (upd (upd (upd (upd (upd (upd (upd (upd (upd (upd (upd (upd (upd (g 0) 0 1) 1 1) 2 1) 3 1) 4 1) 5 0) 8 0) 9 0) 6 0) 7 0) 10 0) 11 0) 12 1) 13 1) 14 1) 15 0) 0 ((sg 1) - 48) = F5 := (show F5 = s_X0_takeSetting_X (upd (upd (upd (upd (upd (upd (upd (upd (upd (upd (upd (upd (upd (upd (upd (upd (g 0) 0 1) 1 1) 2 1) 3 1) 4 1) 5 0) 8 0) 9 0) 6 0) 7 0) 10 0) 11 0) 12 1) 13 1) 14 1) 15 0) 0 ((sg 1) - 48) from hw).symm
  have hP9 : va_P G.1 vwCl ([(h0, .inr (3, cX (kc (nI L)) h1)), (h1, .inl (G.2.1, 70, .inl sg))] ++ (cW a (kg F5 (upd (upd (upd (upd (upd (upd (upd (upd (upd (upd (upd (upd (upd (upd (upd (upd (g 1) 0 1) 1 1) 2 1) 3 1) 4 1) 5 0) 8 0) 9 0) 6 0) 7 0) 10 0) 11 0) 12 1) 13 1) 14 1) 15 0) (upd (upd (upd (upd (upd (upd (upd (upd (upd (upd (upd (g 2) 9 1) 0 0) 6 0) 7 0) 8 0) 10 0) 1 0) 2 1) 3 1) 4 1) 5 0) (upd (upd (upd (upd (upd (upd (upd (upd (upd (upd (upd (g 3) 9 1) 0 0) 6 0) 7 0) 8 0) 10 0) 1 0) 2 1) 3 1) 4 1) 5 0) (upd (upd (upd (upd (g 4) 0 0) 1 0) 2 0) 3 0)))) H8 := hP8
  have hD10 : va_D A ([(h0, .inr (3, cX (kc (nI L)) h1)), (h1, .inl (G.2.1, 70, .inl sg))] ++ (cW a (kg F5 (upd (upd (upd (upd (upd (upd (upd (upd (upd (upd (upd (upd (upd (upd (upd (upd (g 1) 0 1) 1 1) 2 1) 3 1) 4 1) 5 0) 8 0) 9 0) 6 0) 7 0) 10 0) 11 0) 12 1) 13 1) 14 1) 15 0) (upd (upd (upd (upd (upd (upd (upd (upd (upd (upd (upd (g 2) 9 1) 0 0) 6 0) 7 0) 8 0) 10 0) 1 0) 2 1) 3 1) 4 1) 5 0) (upd (upd (upd (upd (upd (upd (upd (upd (upd (upd (upd (g 3) 9 1) 0 0) 6 0) 7 0) 8 0) 10 0) 1 0) 2 1) 3 1) 4 1) 5 0) (upd (upd (upd (upd (g 4) 0 0) 1 0) 2 0) 3 0)))) := hD8
  refine lv_iinc (v := 2) (lv' := [(2, .int 2), (0, .ref h0), (1, .ref (a 0))]) hx hb dX3_layOut_38 hl4 (k := 0) rfl (by decide +kernel) (by decide) rfl (fun ls11 hl11 => ?_)
  refine lv_goto (tgt := 6) hx hb dX3_layOut_41 (by decide) ?_
  refine lv_iload_n hx hb dX3_layOut_6 rfl (lv_at hl11 0 rfl) ?_
  refine lv_bipush (v := 7) hx hb dX3_layOut_7 (by decide) ?_
  refine lv_icmp_ge (x := 2) (y := 7) (tgt := 44) hx hb dX3_layOut_9 (by decide) (fun (c6 : 7 ≤ 2) => absurd c6 (by decide)) (fun (c6 : ¬ (7 ≤ 2)) => ?_)
  refine lv_aload_n hx hb dX3_layOut_12 rfl (lv_at hl11 2 rfl) ?_
  refine lv_iload_n hx hb dX3_layOut_13 rfl (lv_at hl11 0 rfl) ?_
  refine lv_iconst (v := 1) hx hb dX3_layOut_14 (by decide) ?_
  refine lv_isub hx hb dX3_layOut_15 ?_
  refine k_top (y := 1) (by decide +kernel) ?_
  refine lv_iconst (v := 3) hx hb dX3_layOut_16 (by decide) ?_
  refine lv_idiv hx hb dX3_layOut_17 (by decide) ?_
  refine k_top (y := 0) (by decide +kernel) ?_
  refine k_callr (kRunV (As := [.int 0]) (rest := []) kx (c_X5_endOf_0 l G (upd (upd (upd (upd (g 4) 0 0) 1 0) 2 0) 3 0) (a 0) (a 1) (a 3) (a 5) (a 7)) q_329 q_326 q_31 q_327 q_328 nX5_endOf ⟨Nat.le_of_ble_eq_true rfl, Nat.le_of_ble_eq_true rfl⟩ hK hP9 hD10 (kCtx_places _ _ [2] rfl rfl) 0 5 rfl rfl rfl rfl hl11.1 (Nat.le_of_ble_eq_true rfl) dX3_layOut_18 ⟨Nat.zero_le _, Nat.zero_le _⟩) hP9 hD10 hS8 hA (kCtx_places _ _ [2] rfl rfl) (fun _ => rfl) (fun r7 _ H12 locs12 hw hP12 hD12 hS12 => ?_)
  have hr7 : a 1 = r7 := (show r7 = a 1 from hw).symm
  subst hr7
  have hP13 : va_P G.1 vwCl ([(h0, .inr (3, cX (kc (nI L)) h1)), (h1, .inl (G.2.1, 70, .inl sg))] ++ (cW a (kg F5 (upd (upd (upd (upd (upd (upd (upd (upd (upd (upd (upd (upd (upd (upd (upd (upd (g 1) 0 1) 1 1) 2 1) 3 1) 4 1) 5 0) 8 0) 9 0) 6 0) 7 0) 10 0) 11 0) 12 1) 13 1) 14 1) 15 0) (upd (upd (upd (upd (upd (upd (upd (upd (upd (upd (upd (g 2) 9 1) 0 0) 6 0) 7 0) 8 0) 10 0) 1 0) 2 1) 3 1) 4 1) 5 0) (upd (upd (upd (upd (upd (upd (upd (upd (upd (upd (upd (g 3) 9 1) 0 0) 6 0) 7 0) 8 0) 10 0) 1 0) 2 1) 3 1) 4 1) 5 0) (upd (upd (upd (upd (g 4) 0 0) 1 0) 2 0) 3 0)))) H12 := hP12
  have hD14 : va_D A ([(h0, .inr (3, cX (kc (nI L)) h1)), (h1, .inl (G.2.1, 70, .inl sg))] ++ (cW a (kg F5 (upd (upd (upd (upd (upd (upd (upd (upd (upd (upd (upd (upd (upd (upd (upd (upd (g 1) 0 1) 1 1) 2 1) 3 1) 4 1) 5 0) 8 0) 9 0) 6 0) 7 0) 10 0) 11 0) 12 1) 13 1) 14 1) 15 0) (upd (upd (upd (upd (upd (upd (upd (upd (upd (upd (upd (g 2) 9 1) 0 0) 6 0) 7 0) 8 0) 10 0) 1 0) 2 1) 3 1) 4 1) 5 0) (upd (upd (upd (upd (upd (upd (upd (upd (upd (upd (upd (g 3) 9 1) 0 0) 6 0) 7 0) 8 0) 10 0) 1 0) 2 1) 3 1) 4 1) 5 0) (upd (upd (upd (upd (g 4) 0 0) 1 0) 2 0) 3 0)))) := hD12
  refine lv_iload_n hx hb dX3_layOut_21 rfl (lv_at hl11 0 rfl) ?_
  refine lv_iconst (v := 1) hx hb dX3_layOut_22 (by decide) ?_
  refine lv_isub hx hb dX3_layOut_23 ?_
  refine k_top (y := 1) (by decide +kernel) ?_
  refine lv_iconst (v := 3) hx hb dX3_layOut_24 (by decide) ?_
  refine lv_irem hx hb dX3_layOut_25 (by decide) ?_
  refine k_top (y := 1) (by decide +kernel) ?_
  refine lv_aload_n hx hb dX3_layOut_26 rfl (lv_at hl11 1 rfl) ?_
  refine va_get (ci := 3) (v := .ref h1) (C := RX3) (T := TX3) (N := 2) hx hb ht inX3 hown hK.1 hP13 0 rfl rfl 0 (by decide) (ht _ q_53) (fun _ h9 => h9) rfl dX3_layOut_27 ?_
  refine lv_iload_n hx hb dX3_layOut_30 rfl (lv_at hl11 0 rfl) ?_
  refine k_iald (v := (sg 2)) kx hK hP13 1 rfl 2 rfl (by decide) (by decide) rfl dX3_layOut_31 ?_
  refine lv_bipush (v := 48) hx hb dX3_layOut_32 (by decide) ?_
  refine lv_isub hx hb dX3_layOut_34 ?_
  refine k_callv (kRunV (As := [.int 1, .int ((sg 2) - 48)]) (rest := []) kx (c_X0_takeSetting l G F5 (a 1) (a 2) 1 ((sg 2) - 48)) q_333 q_330 q_32 q_331 q_332 nX0_takeSetting ⟨Nat.le_of_ble_eq_true rfl, Nat.le_of_ble_eq_true rfl⟩ hK hP13 hD14 (kCtx_places _ _ [3, 4] rfl rfl) 0 0 rfl rfl rfl rfl hl11.1 (Nat.le_of_ble_eq_true rfl) dX3_layOut_35 ⟨Nat.zero_le _, Nat.zero_le _⟩) hP13 hD14 hS12 hA (kCtx_places _ _ [3, 4] rfl rfl) (fun _ => rfl) (fun F9 H15 locs15 hw hP15 hD15 hS15 => ?_)
  have hF9 : s_X0_takeSetting_X F5 1 ((sg 2) - 48) = F9 := (show F9 = s_X0_takeSetting_X F5 1 ((sg 2) - 48) from hw).symm
  have hP16 : va_P G.1 vwCl ([(h0, .inr (3, cX (kc (nI L)) h1)), (h1, .inl (G.2.1, 70, .inl sg))] ++ (cW a (kg F9 (upd (upd (upd (upd (upd (upd (upd (upd (upd (upd (upd (upd (upd (upd (upd (upd (g 1) 0 1) 1 1) 2 1) 3 1) 4 1) 5 0) 8 0) 9 0) 6 0) 7 0) 10 0) 11 0) 12 1) 13 1) 14 1) 15 0) (upd (upd (upd (upd (upd (upd (upd (upd (upd (upd (upd (g 2) 9 1) 0 0) 6 0) 7 0) 8 0) 10 0) 1 0) 2 1) 3 1) 4 1) 5 0) (upd (upd (upd (upd (upd (upd (upd (upd (upd (upd (upd (g 3) 9 1) 0 0) 6 0) 7 0) 8 0) 10 0) 1 0) 2 1) 3 1) 4 1) 5 0) (upd (upd (upd (upd (g 4) 0 0) 1 0) 2 0) 3 0)))) H15 := hP15
  have hD17 : va_D A ([(h0, .inr (3, cX (kc (nI L)) h1)), (h1, .inl (G.2.1, 70, .inl sg))] ++ (cW a (kg F9 (upd (upd (upd (upd (upd (upd (upd (upd (upd (upd (upd (upd (upd (upd (upd (upd (g 1) 0 1) 1 1) 2 1) 3 1) 4 1) 5 0) 8 0) 9 0) 6 0) 7 0) 10 0) 11 0) 12 1) 13 1) 14 1) 15 0) (upd (upd (upd (upd (upd (upd (upd (upd (upd (upd (upd (g 2) 9 1) 0 0) 6 0) 7 0) 8 0) 10 0) 1 0) 2 1) 3 1) 4 1) 5 0) (upd (upd (upd (upd (upd (upd (upd (upd (upd (upd (upd (g 3) 9 1) 0 0) 6 0) 7 0) 8 0) 10 0) 1 0) 2 1) 3 1) 4 1) 5 0) (upd (upd (upd (upd (g 4) 0 0) 1 0) 2 0) 3 0)))) := hD15
  refine lv_iinc (v := 3) (lv' := [(2, .int 3), (0, .ref h0), (1, .ref (a 0))]) hx hb dX3_layOut_38 hl11 (k := 0) rfl (by decide +kernel) (by decide) rfl (fun ls18 hl18 => ?_)
  refine lv_goto (tgt := 6) hx hb dX3_layOut_41 (by decide) ?_
  refine lv_iload_n hx hb dX3_layOut_6 rfl (lv_at hl18 0 rfl) ?_
  refine lv_bipush (v := 7) hx hb dX3_layOut_7 (by decide) ?_
  refine lv_icmp_ge (x := 3) (y := 7) (tgt := 44) hx hb dX3_layOut_9 (by decide) (fun (c10 : 7 ≤ 3) => absurd c10 (by decide)) (fun (c10 : ¬ (7 ≤ 3)) => ?_)
  refine lv_aload_n hx hb dX3_layOut_12 rfl (lv_at hl18 2 rfl) ?_
  refine lv_iload_n hx hb dX3_layOut_13 rfl (lv_at hl18 0 rfl) ?_
  refine lv_iconst (v := 1) hx hb dX3_layOut_14 (by decide) ?_
  refine lv_isub hx hb dX3_layOut_15 ?_
  refine k_top (y := 2) (by decide +kernel) ?_
  refine lv_iconst (v := 3) hx hb dX3_layOut_16 (by decide) ?_
  refine lv_idiv hx hb dX3_layOut_17 (by decide) ?_
  refine k_top (y := 0) (by decide +kernel) ?_
  refine k_callr (kRunV (As := [.int 0]) (rest := []) kx (c_X5_endOf_0 l G (upd (upd (upd (upd (g 4) 0 0) 1 0) 2 0) 3 0) (a 0) (a 1) (a 3) (a 5) (a 7)) q_329 q_326 q_31 q_327 q_328 nX5_endOf ⟨Nat.le_of_ble_eq_true rfl, Nat.le_of_ble_eq_true rfl⟩ hK hP16 hD17 (kCtx_places _ _ [2] rfl rfl) 0 5 rfl rfl rfl rfl hl18.1 (Nat.le_of_ble_eq_true rfl) dX3_layOut_18 ⟨Nat.zero_le _, Nat.zero_le _⟩) hP16 hD17 hS15 hA (kCtx_places _ _ [2] rfl rfl) (fun _ => rfl) (fun r11 _ H19 locs19 hw hP19 hD19 hS19 => ?_)
  have hr11 : a 1 = r11 := (show r11 = a 1 from hw).symm
  subst hr11
  have hP20 : va_P G.1 vwCl ([(h0, .inr (3, cX (kc (nI L)) h1)), (h1, .inl (G.2.1, 70, .inl sg))] ++ (cW a (kg F9 (upd (upd (upd (upd (upd (upd (upd (upd (upd (upd (upd (upd (upd (upd (upd (upd (g 1) 0 1) 1 1) 2 1) 3 1) 4 1) 5 0) 8 0) 9 0) 6 0) 7 0) 10 0) 11 0) 12 1) 13 1) 14 1) 15 0) (upd (upd (upd (upd (upd (upd (upd (upd (upd (upd (upd (g 2) 9 1) 0 0) 6 0) 7 0) 8 0) 10 0) 1 0) 2 1) 3 1) 4 1) 5 0) (upd (upd (upd (upd (upd (upd (upd (upd (upd (upd (upd (g 3) 9 1) 0 0) 6 0) 7 0) 8 0) 10 0) 1 0) 2 1) 3 1) 4 1) 5 0) (upd (upd (upd (upd (g 4) 0 0) 1 0) 2 0) 3 0)))) H19 := hP19
  have hD21 : va_D A ([(h0, .inr (3, cX (kc (nI L)) h1)), (h1, .inl (G.2.1, 70, .inl sg))] ++ (cW a (kg F9 (upd (upd (upd (upd (upd (upd (upd (upd (upd (upd (upd (upd (upd (upd (upd (upd (g 1) 0 1) 1 1) 2 1) 3 1) 4 1) 5 0) 8 0) 9 0) 6 0) 7 0) 10 0) 11 0) 12 1) 13 1) 14 1) 15 0) (upd (upd (upd (upd (upd (upd (upd (upd (upd (upd (upd (g 2) 9 1) 0 0) 6 0) 7 0) 8 0) 10 0) 1 0) 2 1) 3 1) 4 1) 5 0) (upd (upd (upd (upd (upd (upd (upd (upd (upd (upd (upd (g 3) 9 1) 0 0) 6 0) 7 0) 8 0) 10 0) 1 0) 2 1) 3 1) 4 1) 5 0) (upd (upd (upd (upd (g 4) 0 0) 1 0) 2 0) 3 0)))) := hD19
  refine lv_iload_n hx hb dX3_layOut_21 rfl (lv_at hl18 0 rfl) ?_
  refine lv_iconst (v := 1) hx hb dX3_layOut_22 (by decide) ?_
  refine lv_isub hx hb dX3_layOut_23 ?_
  refine k_top (y := 2) (by decide +kernel) ?_
  refine lv_iconst (v := 3) hx hb dX3_layOut_24 (by decide) ?_
  refine lv_irem hx hb dX3_layOut_25 (by decide) ?_
  refine k_top (y := 2) (by decide +kernel) ?_
  refine lv_aload_n hx hb dX3_layOut_26 rfl (lv_at hl18 1 rfl) ?_
  refine va_get (ci := 3) (v := .ref h1) (C := RX3) (T := TX3) (N := 2) hx hb ht inX3 hown hK.1 hP20 0 rfl rfl 0 (by decide) (ht _ q_53) (fun _ h9 => h9) rfl dX3_layOut_27 ?_
  refine lv_iload_n hx hb dX3_layOut_30 rfl (lv_at hl18 0 rfl) ?_
  refine k_iald (v := (sg 3)) kx hK hP20 1 rfl 3 rfl (by decide) (by decide) rfl dX3_layOut_31 ?_
  refine lv_bipush (v := 48) hx hb dX3_layOut_32 (by decide) ?_
  refine lv_isub hx hb dX3_layOut_34 ?_
  refine k_callv (kRunV (As := [.int 2, .int ((sg 3) - 48)]) (rest := []) kx (c_X0_takeSetting l G F9 (a 1) (a 2) 2 ((sg 3) - 48)) q_333 q_330 q_32 q_331 q_332 nX0_takeSetting ⟨Nat.le_of_ble_eq_true rfl, Nat.le_of_ble_eq_true rfl⟩ hK hP20 hD21 (kCtx_places _ _ [3, 4] rfl rfl) 0 0 rfl rfl rfl rfl hl18.1 (Nat.le_of_ble_eq_true rfl) dX3_layOut_35 ⟨Nat.zero_le _, Nat.zero_le _⟩) hP20 hD21 hS19 hA (kCtx_places _ _ [3, 4] rfl rfl) (fun _ => rfl) (fun F13 H22 locs22 hw hP22 hD22 hS22 => ?_)
  have hF13 : s_X0_takeSetting_X F9 2 ((sg 3) - 48) = F13 := (show F13 = s_X0_takeSetting_X F9 2 ((sg 3) - 48) from hw).symm
  have hP23 : va_P G.1 vwCl ([(h0, .inr (3, cX (kc (nI L)) h1)), (h1, .inl (G.2.1, 70, .inl sg))] ++ (cW a (kg F13 (upd (upd (upd (upd (upd (upd (upd (upd (upd (upd (upd (upd (upd (upd (upd (upd (g 1) 0 1) 1 1) 2 1) 3 1) 4 1) 5 0) 8 0) 9 0) 6 0) 7 0) 10 0) 11 0) 12 1) 13 1) 14 1) 15 0) (upd (upd (upd (upd (upd (upd (upd (upd (upd (upd (upd (g 2) 9 1) 0 0) 6 0) 7 0) 8 0) 10 0) 1 0) 2 1) 3 1) 4 1) 5 0) (upd (upd (upd (upd (upd (upd (upd (upd (upd (upd (upd (g 3) 9 1) 0 0) 6 0) 7 0) 8 0) 10 0) 1 0) 2 1) 3 1) 4 1) 5 0) (upd (upd (upd (upd (g 4) 0 0) 1 0) 2 0) 3 0)))) H22 := hP22
  have hD24 : va_D A ([(h0, .inr (3, cX (kc (nI L)) h1)), (h1, .inl (G.2.1, 70, .inl sg))] ++ (cW a (kg F13 (upd (upd (upd (upd (upd (upd (upd (upd (upd (upd (upd (upd (upd (upd (upd (upd (g 1) 0 1) 1 1) 2 1) 3 1) 4 1) 5 0) 8 0) 9 0) 6 0) 7 0) 10 0) 11 0) 12 1) 13 1) 14 1) 15 0) (upd (upd (upd (upd (upd (upd (upd (upd (upd (upd (upd (g 2) 9 1) 0 0) 6 0) 7 0) 8 0) 10 0) 1 0) 2 1) 3 1) 4 1) 5 0) (upd (upd (upd (upd (upd (upd (upd (upd (upd (upd (upd (g 3) 9 1) 0 0) 6 0) 7 0) 8 0) 10 0) 1 0) 2 1) 3 1) 4 1) 5 0) (upd (upd (upd (upd (g 4) 0 0) 1 0) 2 0) 3 0)))) := hD22
  refine lv_iinc (v := 4) (lv' := [(2, .int 4), (0, .ref h0), (1, .ref (a 0))]) hx hb dX3_layOut_38 hl18 (k := 0) rfl (by decide +kernel) (by decide) rfl (fun ls25 hl25 => ?_)
  refine lv_goto (tgt := 6) hx hb dX3_layOut_41 (by decide) ?_
  refine lv_iload_n hx hb dX3_layOut_6 rfl (lv_at hl25 0 rfl) ?_
  refine lv_bipush (v := 7) hx hb dX3_layOut_7 (by decide) ?_
  refine lv_icmp_ge (x := 4) (y := 7) (tgt := 44) hx hb dX3_layOut_9 (by decide) (fun (c14 : 7 ≤ 4) => absurd c14 (by decide)) (fun (c14 : ¬ (7 ≤ 4)) => ?_)
  refine lv_aload_n hx hb dX3_layOut_12 rfl (lv_at hl25 2 rfl) ?_
  refine lv_iload_n hx hb dX3_layOut_13 rfl (lv_at hl25 0 rfl) ?_
  refine lv_iconst (v := 1) hx hb dX3_layOut_14 (by decide) ?_
  refine lv_isub hx hb dX3_layOut_15 ?_
  refine k_top (y := 3) (by decide +kernel) ?_
  refine lv_iconst (v := 3) hx hb dX3_layOut_16 (by decide) ?_
  refine lv_idiv hx hb dX3_layOut_17 (by decide) ?_
  refine k_top (y := 1) (by decide +kernel) ?_
  refine k_callr (kRunV (As := [.int 1]) (rest := []) kx (c_X5_endOf_n l G (upd (upd (upd (upd (g 4) 0 0) 1 0) 2 0) 3 0) (a 0) (a 1) (a 3) (a 5) (a 7) 1 (by decide)) q_329 q_326 q_31 q_327 q_328 nX5_endOf ⟨Nat.le_of_ble_eq_true rfl, Nat.le_of_ble_eq_true rfl⟩ hK hP23 hD24 (kCtx_places _ _ [2] rfl rfl) 0 5 rfl rfl rfl rfl hl25.1 (Nat.le_of_ble_eq_true rfl) dX3_layOut_18 ⟨Nat.zero_le _, Nat.zero_le _⟩) hP23 hD24 hS22 hA (kCtx_places _ _ [2] rfl rfl) (fun _ => rfl) (fun r15 _ H26 locs26 hw hP26 hD26 hS26 => ?_)
  have hr15 : a 3 = r15 := (show r15 = a 3 from hw).symm
  subst hr15
  have hP27 : va_P G.1 vwCl ([(h0, .inr (3, cX (kc (nI L)) h1)), (h1, .inl (G.2.1, 70, .inl sg))] ++ (cW a (kg F13 (upd (upd (upd (upd (upd (upd (upd (upd (upd (upd (upd (upd (upd (upd (upd (upd (g 1) 0 1) 1 1) 2 1) 3 1) 4 1) 5 0) 8 0) 9 0) 6 0) 7 0) 10 0) 11 0) 12 1) 13 1) 14 1) 15 0) (upd (upd (upd (upd (upd (upd (upd (upd (upd (upd (upd (g 2) 9 1) 0 0) 6 0) 7 0) 8 0) 10 0) 1 0) 2 1) 3 1) 4 1) 5 0) (upd (upd (upd (upd (upd (upd (upd (upd (upd (upd (upd (g 3) 9 1) 0 0) 6 0) 7 0) 8 0) 10 0) 1 0) 2 1) 3 1) 4 1) 5 0) (upd (upd (upd (upd (g 4) 0 0) 1 0) 2 0) 3 0)))) H26 := hP26
  have hD28 : va_D A ([(h0, .inr (3, cX (kc (nI L)) h1)), (h1, .inl (G.2.1, 70, .inl sg))] ++ (cW a (kg F13 (upd (upd (upd (upd (upd (upd (upd (upd (upd (upd (upd (upd (upd (upd (upd (upd (g 1) 0 1) 1 1) 2 1) 3 1) 4 1) 5 0) 8 0) 9 0) 6 0) 7 0) 10 0) 11 0) 12 1) 13 1) 14 1) 15 0) (upd (upd (upd (upd (upd (upd (upd (upd (upd (upd (upd (g 2) 9 1) 0 0) 6 0) 7 0) 8 0) 10 0) 1 0) 2 1) 3 1) 4 1) 5 0) (upd (upd (upd (upd (upd (upd (upd (upd (upd (upd (upd (g 3) 9 1) 0 0) 6 0) 7 0) 8 0) 10 0) 1 0) 2 1) 3 1) 4 1) 5 0) (upd (upd (upd (upd (g 4) 0 0) 1 0) 2 0) 3 0)))) := hD26
  refine lv_iload_n hx hb dX3_layOut_21 rfl (lv_at hl25 0 rfl) ?_
  refine lv_iconst (v := 1) hx hb dX3_layOut_22 (by decide) ?_
  refine lv_isub hx hb dX3_layOut_23 ?_
  refine k_top (y := 3) (by decide +kernel) ?_
  refine lv_iconst (v := 3) hx hb dX3_layOut_24 (by decide) ?_
  refine lv_irem hx hb dX3_layOut_25 (by decide) ?_
  refine k_top (y := 0) (by decide +kernel) ?_
  refine lv_aload_n hx hb dX3_layOut_26 rfl (lv_at hl25 1 rfl) ?_
  refine va_get (ci := 3) (v := .ref h1) (C := RX3) (T := TX3) (N := 2) hx hb ht inX3 hown hK.1 hP27 0 rfl rfl 0 (by decide) (ht _ q_53) (fun _ h9 => h9) rfl dX3_layOut_27 ?_
  refine lv_iload_n hx hb dX3_layOut_30 rfl (lv_at hl25 0 rfl) ?_
  refine k_iald (v := (sg 4)) kx hK hP27 1 rfl 4 rfl (by decide) (by decide) rfl dX3_layOut_31 ?_
  refine lv_bipush (v := 48) hx hb dX3_layOut_32 (by decide) ?_
  refine lv_isub hx hb dX3_layOut_34 ?_
  refine k_callv (kRunV (As := [.int 0, .int ((sg 4) - 48)]) (rest := []) kx (c_X0_takeSetting l G (upd (upd (upd (upd (upd (upd (upd (upd (upd (upd (upd (upd (upd (upd (upd (upd (g 1) 0 1) 1 1) 2 1) 3 1) 4 1) 5 0) 8 0) 9 0) 6 0) 7 0) 10 0) 11 0) 12 1) 13 1) 14 1) 15 0) (a 3) (a 4) 0 ((sg 4) - 48)) q_333 q_330 q_32 q_331 q_332 nX0_takeSetting ⟨Nat.le_of_ble_eq_true rfl, Nat.le_of_ble_eq_true rfl⟩ hK hP27 hD28 (kCtx_places _ _ [5, 6] rfl rfl) 0 0 rfl rfl rfl rfl hl25.1 (Nat.le_of_ble_eq_true rfl) dX3_layOut_35 ⟨Nat.zero_le _, Nat.zero_le _⟩) hP27 hD28 hS26 hA (kCtx_places _ _ [5, 6] rfl rfl) (fun _ => rfl) (fun F17 H29 locs29 hw hP29 hD29 hS29 => ?_)
  have hF17 : s_X0_takeSetting_X (upd (upd (upd (upd (upd (upd (upd (upd (upd (upd (upd (upd (upd (upd (upd (upd (g 1) 0 1) 1 1) 2 1) 3 1) 4 1) 5 0) 8 0) 9 0) 6 0) 7 0) 10 0) 11 0) 12 1) 13 1) 14 1) 15 0) 0 ((sg 4) - 48) = F17 := (show F17 = s_X0_takeSetting_X (upd (upd (upd (upd (upd (upd (upd (upd (upd (upd (upd (upd (upd (upd (upd (upd (g 1) 0 1) 1 1) 2 1) 3 1) 4 1) 5 0) 8 0) 9 0) 6 0) 7 0) 10 0) 11 0) 12 1) 13 1) 14 1) 15 0) 0 ((sg 4) - 48) from hw).symm
  have hP30 : va_P G.1 vwCl ([(h0, .inr (3, cX (kc (nI L)) h1)), (h1, .inl (G.2.1, 70, .inl sg))] ++ (cW a (kg F13 F17 (upd (upd (upd (upd (upd (upd (upd (upd (upd (upd (upd (g 2) 9 1) 0 0) 6 0) 7 0) 8 0) 10 0) 1 0) 2 1) 3 1) 4 1) 5 0) (upd (upd (upd (upd (upd (upd (upd (upd (upd (upd (upd (g 3) 9 1) 0 0) 6 0) 7 0) 8 0) 10 0) 1 0) 2 1) 3 1) 4 1) 5 0) (upd (upd (upd (upd (g 4) 0 0) 1 0) 2 0) 3 0)))) H29 := hP29
  have hD31 : va_D A ([(h0, .inr (3, cX (kc (nI L)) h1)), (h1, .inl (G.2.1, 70, .inl sg))] ++ (cW a (kg F13 F17 (upd (upd (upd (upd (upd (upd (upd (upd (upd (upd (upd (g 2) 9 1) 0 0) 6 0) 7 0) 8 0) 10 0) 1 0) 2 1) 3 1) 4 1) 5 0) (upd (upd (upd (upd (upd (upd (upd (upd (upd (upd (upd (g 3) 9 1) 0 0) 6 0) 7 0) 8 0) 10 0) 1 0) 2 1) 3 1) 4 1) 5 0) (upd (upd (upd (upd (g 4) 0 0) 1 0) 2 0) 3 0)))) := hD29
  refine lv_iinc (v := 5) (lv' := [(2, .int 5), (0, .ref h0), (1, .ref (a 0))]) hx hb dX3_layOut_38 hl25 (k := 0) rfl (by decide +kernel) (by decide) rfl (fun ls32 hl32 => ?_)
  refine lv_goto (tgt := 6) hx hb dX3_layOut_41 (by decide) ?_
  refine lv_iload_n hx hb dX3_layOut_6 rfl (lv_at hl32 0 rfl) ?_
  refine lv_bipush (v := 7) hx hb dX3_layOut_7 (by decide) ?_
  refine lv_icmp_ge (x := 5) (y := 7) (tgt := 44) hx hb dX3_layOut_9 (by decide) (fun (c18 : 7 ≤ 5) => absurd c18 (by decide)) (fun (c18 : ¬ (7 ≤ 5)) => ?_)
  refine lv_aload_n hx hb dX3_layOut_12 rfl (lv_at hl32 2 rfl) ?_
  refine lv_iload_n hx hb dX3_layOut_13 rfl (lv_at hl32 0 rfl) ?_
  refine lv_iconst (v := 1) hx hb dX3_layOut_14 (by decide) ?_
  refine lv_isub hx hb dX3_layOut_15 ?_
  refine k_top (y := 4) (by decide +kernel) ?_
  refine lv_iconst (v := 3) hx hb dX3_layOut_16 (by decide) ?_
  refine lv_idiv hx hb dX3_layOut_17 (by decide) ?_
  refine k_top (y := 1) (by decide +kernel) ?_
  refine k_callr (kRunV (As := [.int 1]) (rest := []) kx (c_X5_endOf_n l G (upd (upd (upd (upd (g 4) 0 0) 1 0) 2 0) 3 0) (a 0) (a 1) (a 3) (a 5) (a 7) 1 (by decide)) q_329 q_326 q_31 q_327 q_328 nX5_endOf ⟨Nat.le_of_ble_eq_true rfl, Nat.le_of_ble_eq_true rfl⟩ hK hP30 hD31 (kCtx_places _ _ [2] rfl rfl) 0 5 rfl rfl rfl rfl hl32.1 (Nat.le_of_ble_eq_true rfl) dX3_layOut_18 ⟨Nat.zero_le _, Nat.zero_le _⟩) hP30 hD31 hS29 hA (kCtx_places _ _ [2] rfl rfl) (fun _ => rfl) (fun r19 _ H33 locs33 hw hP33 hD33 hS33 => ?_)
  have hr19 : a 3 = r19 := (show r19 = a 3 from hw).symm
  subst hr19
  have hP34 : va_P G.1 vwCl ([(h0, .inr (3, cX (kc (nI L)) h1)), (h1, .inl (G.2.1, 70, .inl sg))] ++ (cW a (kg F13 F17 (upd (upd (upd (upd (upd (upd (upd (upd (upd (upd (upd (g 2) 9 1) 0 0) 6 0) 7 0) 8 0) 10 0) 1 0) 2 1) 3 1) 4 1) 5 0) (upd (upd (upd (upd (upd (upd (upd (upd (upd (upd (upd (g 3) 9 1) 0 0) 6 0) 7 0) 8 0) 10 0) 1 0) 2 1) 3 1) 4 1) 5 0) (upd (upd (upd (upd (g 4) 0 0) 1 0) 2 0) 3 0)))) H33 := hP33
  have hD35 : va_D A ([(h0, .inr (3, cX (kc (nI L)) h1)), (h1, .inl (G.2.1, 70, .inl sg))] ++ (cW a (kg F13 F17 (upd (upd (upd (upd (upd (upd (upd (upd (upd (upd (upd (g 2) 9 1) 0 0) 6 0) 7 0) 8 0) 10 0) 1 0) 2 1) 3 1) 4 1) 5 0) (upd (upd (upd (upd (upd (upd (upd (upd (upd (upd (upd (g 3) 9 1) 0 0) 6 0) 7 0) 8 0) 10 0) 1 0) 2 1) 3 1) 4 1) 5 0) (upd (upd (upd (upd (g 4) 0 0) 1 0) 2 0) 3 0)))) := hD33
  refine lv_iload_n hx hb dX3_layOut_21 rfl (lv_at hl32 0 rfl) ?_
  refine lv_iconst (v := 1) hx hb dX3_layOut_22 (by decide) ?_
  refine lv_isub hx hb dX3_layOut_23 ?_
  refine k_top (y := 4) (by decide +kernel) ?_
  refine lv_iconst (v := 3) hx hb dX3_layOut_24 (by decide) ?_
  refine lv_irem hx hb dX3_layOut_25 (by decide) ?_
  refine k_top (y := 1) (by decide +kernel) ?_
  refine lv_aload_n hx hb dX3_layOut_26 rfl (lv_at hl32 1 rfl) ?_
  refine va_get (ci := 3) (v := .ref h1) (C := RX3) (T := TX3) (N := 2) hx hb ht inX3 hown hK.1 hP34 0 rfl rfl 0 (by decide) (ht _ q_53) (fun _ h9 => h9) rfl dX3_layOut_27 ?_
  refine lv_iload_n hx hb dX3_layOut_30 rfl (lv_at hl32 0 rfl) ?_
  refine k_iald (v := (sg 5)) kx hK hP34 1 rfl 5 rfl (by decide) (by decide) rfl dX3_layOut_31 ?_
  refine lv_bipush (v := 48) hx hb dX3_layOut_32 (by decide) ?_
  refine lv_isub hx hb dX3_layOut_34 ?_
  refine k_callv (kRunV (As := [.int 1, .int ((sg 5) - 48)]) (rest := []) kx (c_X0_takeSetting l G F17 (a 3) (a 4) 1 ((sg 5) - 48)) q_333 q_330 q_32 q_331 q_332 nX0_takeSetting ⟨Nat.le_of_ble_eq_true rfl, Nat.le_of_ble_eq_true rfl⟩ hK hP34 hD35 (kCtx_places _ _ [5, 6] rfl rfl) 0 0 rfl rfl rfl rfl hl32.1 (Nat.le_of_ble_eq_true rfl) dX3_layOut_35 ⟨Nat.zero_le _, Nat.zero_le _⟩) hP34 hD35 hS33 hA (kCtx_places _ _ [5, 6] rfl rfl) (fun _ => rfl) (fun F21 H36 locs36 hw hP36 hD36 hS36 => ?_)
  have hF21 : s_X0_takeSetting_X F17 1 ((sg 5) - 48) = F21 := (show F21 = s_X0_takeSetting_X F17 1 ((sg 5) - 48) from hw).symm
  have hP37 : va_P G.1 vwCl ([(h0, .inr (3, cX (kc (nI L)) h1)), (h1, .inl (G.2.1, 70, .inl sg))] ++ (cW a (kg F13 F21 (upd (upd (upd (upd (upd (upd (upd (upd (upd (upd (upd (g 2) 9 1) 0 0) 6 0) 7 0) 8 0) 10 0) 1 0) 2 1) 3 1) 4 1) 5 0) (upd (upd (upd (upd (upd (upd (upd (upd (upd (upd (upd (g 3) 9 1) 0 0) 6 0) 7 0) 8 0) 10 0) 1 0) 2 1) 3 1) 4 1) 5 0) (upd (upd (upd (upd (g 4) 0 0) 1 0) 2 0) 3 0)))) H36 := hP36
  have hD38 : va_D A ([(h0, .inr (3, cX (kc (nI L)) h1)), (h1, .inl (G.2.1, 70, .inl sg))] ++ (cW a (kg F13 F21 (upd (upd (upd (upd (upd (upd (upd (upd (upd (upd (upd (g 2) 9 1) 0 0) 6 0) 7 0) 8 0) 10 0) 1 0) 2 1) 3 1) 4 1) 5 0) (upd (upd (upd (upd (upd (upd (upd (upd (upd (upd (upd (g 3) 9 1) 0 0) 6 0) 7 0) 8 0) 10 0) 1 0) 2 1) 3 1) 4 1) 5 0) (upd (upd (upd (upd (g 4) 0 0) 1 0) 2 0) 3 0)))) := hD36
  refine lv_iinc (v := 6) (lv' := [(2, .int 6), (0, .ref h0), (1, .ref (a 0))]) hx hb dX3_layOut_38 hl32 (k := 0) rfl (by decide +kernel) (by decide) rfl (fun ls39 hl39 => ?_)
  refine lv_goto (tgt := 6) hx hb dX3_layOut_41 (by decide) ?_
  refine lv_iload_n hx hb dX3_layOut_6 rfl (lv_at hl39 0 rfl) ?_
  refine lv_bipush (v := 7) hx hb dX3_layOut_7 (by decide) ?_
  refine lv_icmp_ge (x := 6) (y := 7) (tgt := 44) hx hb dX3_layOut_9 (by decide) (fun (c22 : 7 ≤ 6) => absurd c22 (by decide)) (fun (c22 : ¬ (7 ≤ 6)) => ?_)
  refine lv_aload_n hx hb dX3_layOut_12 rfl (lv_at hl39 2 rfl) ?_
  refine lv_iload_n hx hb dX3_layOut_13 rfl (lv_at hl39 0 rfl) ?_
  refine lv_iconst (v := 1) hx hb dX3_layOut_14 (by decide) ?_
  refine lv_isub hx hb dX3_layOut_15 ?_
  refine k_top (y := 5) (by decide +kernel) ?_
  refine lv_iconst (v := 3) hx hb dX3_layOut_16 (by decide) ?_
  refine lv_idiv hx hb dX3_layOut_17 (by decide) ?_
  refine k_top (y := 1) (by decide +kernel) ?_
  refine k_callr (kRunV (As := [.int 1]) (rest := []) kx (c_X5_endOf_n l G (upd (upd (upd (upd (g 4) 0 0) 1 0) 2 0) 3 0) (a 0) (a 1) (a 3) (a 5) (a 7) 1 (by decide)) q_329 q_326 q_31 q_327 q_328 nX5_endOf ⟨Nat.le_of_ble_eq_true rfl, Nat.le_of_ble_eq_true rfl⟩ hK hP37 hD38 (kCtx_places _ _ [2] rfl rfl) 0 5 rfl rfl rfl rfl hl39.1 (Nat.le_of_ble_eq_true rfl) dX3_layOut_18 ⟨Nat.zero_le _, Nat.zero_le _⟩) hP37 hD38 hS36 hA (kCtx_places _ _ [2] rfl rfl) (fun _ => rfl) (fun r23 _ H40 locs40 hw hP40 hD40 hS40 => ?_)
  have hr23 : a 3 = r23 := (show r23 = a 3 from hw).symm
  subst hr23
  have hP41 : va_P G.1 vwCl ([(h0, .inr (3, cX (kc (nI L)) h1)), (h1, .inl (G.2.1, 70, .inl sg))] ++ (cW a (kg F13 F21 (upd (upd (upd (upd (upd (upd (upd (upd (upd (upd (upd (g 2) 9 1) 0 0) 6 0) 7 0) 8 0) 10 0) 1 0) 2 1) 3 1) 4 1) 5 0) (upd (upd (upd (upd (upd (upd (upd (upd (upd (upd (upd (g 3) 9 1) 0 0) 6 0) 7 0) 8 0) 10 0) 1 0) 2 1) 3 1) 4 1) 5 0) (upd (upd (upd (upd (g 4) 0 0) 1 0) 2 0) 3 0)))) H40 := hP40
  have hD42 : va_D A ([(h0, .inr (3, cX (kc (nI L)) h1)), (h1, .inl (G.2.1, 70, .inl sg))] ++ (cW a (kg F13 F21 (upd (upd (upd (upd (upd (upd (upd (upd (upd (upd (upd (g 2) 9 1) 0 0) 6 0) 7 0) 8 0) 10 0) 1 0) 2 1) 3 1) 4 1) 5 0) (upd (upd (upd (upd (upd (upd (upd (upd (upd (upd (upd (g 3) 9 1) 0 0) 6 0) 7 0) 8 0) 10 0) 1 0) 2 1) 3 1) 4 1) 5 0) (upd (upd (upd (upd (g 4) 0 0) 1 0) 2 0) 3 0)))) := hD40
  refine lv_iload_n hx hb dX3_layOut_21 rfl (lv_at hl39 0 rfl) ?_
  refine lv_iconst (v := 1) hx hb dX3_layOut_22 (by decide) ?_
  refine lv_isub hx hb dX3_layOut_23 ?_
  refine k_top (y := 5) (by decide +kernel) ?_
  refine lv_iconst (v := 3) hx hb dX3_layOut_24 (by decide) ?_
  refine lv_irem hx hb dX3_layOut_25 (by decide) ?_
  refine k_top (y := 2) (by decide +kernel) ?_
  refine lv_aload_n hx hb dX3_layOut_26 rfl (lv_at hl39 1 rfl) ?_
  refine va_get (ci := 3) (v := .ref h1) (C := RX3) (T := TX3) (N := 2) hx hb ht inX3 hown hK.1 hP41 0 rfl rfl 0 (by decide) (ht _ q_53) (fun _ h9 => h9) rfl dX3_layOut_27 ?_
  refine lv_iload_n hx hb dX3_layOut_30 rfl (lv_at hl39 0 rfl) ?_
  refine k_iald (v := (sg 6)) kx hK hP41 1 rfl 6 rfl (by decide) (by decide) rfl dX3_layOut_31 ?_
  refine lv_bipush (v := 48) hx hb dX3_layOut_32 (by decide) ?_
  refine lv_isub hx hb dX3_layOut_34 ?_
  refine k_callv (kRunV (As := [.int 2, .int ((sg 6) - 48)]) (rest := []) kx (c_X0_takeSetting l G F21 (a 3) (a 4) 2 ((sg 6) - 48)) q_333 q_330 q_32 q_331 q_332 nX0_takeSetting ⟨Nat.le_of_ble_eq_true rfl, Nat.le_of_ble_eq_true rfl⟩ hK hP41 hD42 (kCtx_places _ _ [5, 6] rfl rfl) 0 0 rfl rfl rfl rfl hl39.1 (Nat.le_of_ble_eq_true rfl) dX3_layOut_35 ⟨Nat.zero_le _, Nat.zero_le _⟩) hP41 hD42 hS40 hA (kCtx_places _ _ [5, 6] rfl rfl) (fun _ => rfl) (fun F25 H43 locs43 hw hP43 hD43 hS43 => ?_)
  have hF25 : s_X0_takeSetting_X F21 2 ((sg 6) - 48) = F25 := (show F25 = s_X0_takeSetting_X F21 2 ((sg 6) - 48) from hw).symm
  have hP44 : va_P G.1 vwCl ([(h0, .inr (3, cX (kc (nI L)) h1)), (h1, .inl (G.2.1, 70, .inl sg))] ++ (cW a (kg F13 F25 (upd (upd (upd (upd (upd (upd (upd (upd (upd (upd (upd (g 2) 9 1) 0 0) 6 0) 7 0) 8 0) 10 0) 1 0) 2 1) 3 1) 4 1) 5 0) (upd (upd (upd (upd (upd (upd (upd (upd (upd (upd (upd (g 3) 9 1) 0 0) 6 0) 7 0) 8 0) 10 0) 1 0) 2 1) 3 1) 4 1) 5 0) (upd (upd (upd (upd (g 4) 0 0) 1 0) 2 0) 3 0)))) H43 := hP43
  have hD45 : va_D A ([(h0, .inr (3, cX (kc (nI L)) h1)), (h1, .inl (G.2.1, 70, .inl sg))] ++ (cW a (kg F13 F25 (upd (upd (upd (upd (upd (upd (upd (upd (upd (upd (upd (g 2) 9 1) 0 0) 6 0) 7 0) 8 0) 10 0) 1 0) 2 1) 3 1) 4 1) 5 0) (upd (upd (upd (upd (upd (upd (upd (upd (upd (upd (upd (g 3) 9 1) 0 0) 6 0) 7 0) 8 0) 10 0) 1 0) 2 1) 3 1) 4 1) 5 0) (upd (upd (upd (upd (g 4) 0 0) 1 0) 2 0) 3 0)))) := hD43
  refine lv_iinc (v := 7) (lv' := [(2, .int 7), (0, .ref h0), (1, .ref (a 0))]) hx hb dX3_layOut_38 hl39 (k := 0) rfl (by decide +kernel) (by decide) rfl (fun ls46 hl46 => ?_)
  refine lv_goto (tgt := 6) hx hb dX3_layOut_41 (by decide) ?_
  refine lv_iload_n hx hb dX3_layOut_6 rfl (lv_at hl46 0 rfl) ?_
  refine lv_bipush (v := 7) hx hb dX3_layOut_7 (by decide) ?_
  refine lv_icmp_ge (x := 7) (y := 7) (tgt := 44) hx hb dX3_layOut_9 (by decide) (fun (c26 : 7 ≤ 7) => ?_) (fun (c26 : ¬ (7 ≤ 7)) => absurd (by decide) c26)
  refine lv_iconst (v := 0) hx hb dX3_layOut_44 (by decide) ?_
  refine lv_istore_n (lv' := [(2, .int 0), (0, .ref h0), (1, .ref (a 0))]) hx hb dX3_layOut_45 rfl hl46 (by decide) rfl (fun ls47 hl47 => ?_)
  refine lv_bipush (v := 7) hx hb dX3_layOut_46 (by decide) ?_
  refine lv_istore_n (lv' := [(3, .int 7), (2, .int 0), (0, .ref h0), (1, .ref (a 0))]) hx hb dX3_layOut_48 rfl hl47 (by decide) rfl (fun ls48 hl48 => ?_)
  subst hF5
  subst hF9
  subst hF13
  subst hF17
  subst hF21
  subst hF25
  have lp1 : ∀ (n1 j1 : Nat) (ev_1 : Int32) (g_1 : Nat → Nat → Int32), j1 + n1 = L → (hg_1 : s_X3_layOut_g L sg g = l_X3_layOut_1_g sg n1 j1 ev_1 g_1) → (hb1 : bW g_1) → ∀ (H : Heap) (locs : List Loc) (ls : Array Slot), va_P G.1 vwCl ([(h0, .inr (3, cX (kc (nI L)) h1)), (h1, .inl (G.2.1, 70, .inl sg))] ++ (cW a g_1)) H → va_D A ([(h0, .inr (3, cX (kc (nI L)) h1)), (h1, .inl (G.2.1, 70, .inl sg))] ++ (cW a g_1)) → va_S A s.heap H locs → lv_has ls 5 [(0, .ref h0), (1, .ref (a 0)), (2, .int ev_1), (3, .int (nI j1))] → W p l e (kr 5) s m args below meth c H locs 0 0 (MQ below (qV G (fun u : (Nat → Nat → Int32) => u = s_X3_layOut_g L sg g) (fun u => [(h0, .inr (3, cX (kc (nI L)) h1)), (h1, .inl (G.2.1, 70, .inl sg))] ++ (cW a u)) A) args s 0 0 A) (F0 m 49 ls []) := by
    intro n1
    induction n1 with
    | zero =>
      intro j1 ev_1 g_1 hj1 hg_1 hb1 H49 locs49 ls49 hP49 hD49 hS49 hl49
      refine lv_iload_n hx hb dX3_layOut_49 rfl (lv_at hl49 3 rfl) ?_
      refine lv_aload_n hx hb dX3_layOut_50 rfl (lv_at hl49 0 rfl) ?_
      refine va_get (ci := 3) (v := .int (nI L)) (C := RX3) (T := TX3) (N := 2) hx hb ht inX3 hown hK.1 hP49 0 rfl rfl 1 (by decide) (ht _ q_54) (fun _ h9 => h9) rfl dX3_layOut_51 ?_
      refine lv_icmp_ge (x := nI j1) (y := nI L) (tgt := 163) hx hb dX3_layOut_54 (by decide) (fun (c27 : nI L ≤ nI j1) => ?_) (fun (c27 : ¬ (nI L ≤ nI j1)) => absurd (kle_z rfl hj1) c27)
      have e0 : s_X3_layOut_g L sg g = g_1 := by rw [hg_1, l_X3_layOut_1_g]
      exact k_vret kx hK hP49 hD49 hS49 (u := g_1) rfl e0.symm dX3_layOut_163
    | succ n1 ih1 =>
      intro j1 ev_1 g_1 hj1 hg_1 hb1 H49 locs49 ls49 hP49 hD49 hS49 hl49
      refine lv_iload_n hx hb dX3_layOut_49 rfl (lv_at hl49 3 rfl) ?_
      refine lv_aload_n hx hb dX3_layOut_50 rfl (lv_at hl49 0 rfl) ?_
      refine va_get (ci := 3) (v := .int (nI L)) (C := RX3) (T := TX3) (N := 2) hx hb ht inX3 hown hK.1 hP49 0 rfl rfl 1 (by decide) (ht _ q_54) (fun _ h9 => h9) rfl dX3_layOut_51 ?_
      refine lv_icmp_ge (x := nI j1) (y := nI L) (tgt := 163) hx hb dX3_layOut_54 (by decide) (fun (c28 : nI L ≤ nI j1) => absurd c28 (kle_s rfl hj1 (by omega))) (fun (c28 : ¬ (nI L ≤ nI j1)) => ?_)
      refine lv_iload_n hx hb dX3_layOut_57 rfl (lv_at hl49 3 rfl) ?_
      refine lv_bipush (v := 70) hx hb dX3_layOut_58 (by decide) ?_
      refine lv_icmp_ge (x := nI j1) (y := 70) (tgt := 163) hx hb dX3_layOut_60 (by decide) (fun (c29 : 70 ≤ nI j1) => absurd c29 (knle (N := 70) rfl (by omega) (by decide))) (fun (c29 : ¬ (70 ≤ nI j1)) => ?_)
      refine lv_aload_n hx hb dX3_layOut_63 rfl (lv_at hl49 0 rfl) ?_
      refine va_get (ci := 3) (v := .ref h1) (C := RX3) (T := TX3) (N := 2) hx hb ht inX3 hown hK.1 hP49 0 rfl rfl 0 (by decide) (ht _ q_53) (fun _ h9 => h9) rfl dX3_layOut_64 ?_
      refine lv_iload_n hx hb dX3_layOut_67 rfl (lv_at hl49 3 rfl) ?_
      refine k_iald (v := (sg j1)) kx hK hP49 1 rfl j1 rfl (by omega) (by decide) rfl dX3_layOut_68 ?_
      refine lv_istore (lv' := [(4, .int (sg j1)), (0, .ref h0), (1, .ref (a 0)), (2, .int ev_1), (3, .int (nI j1))]) hx hb dX3_layOut_69 hl49 (by decide) rfl (fun ls50 hl50 => ?_)
      refine lv_iload_n hx hb dX3_layOut_71 rfl (lv_at hl50 3 rfl) ?_
      refine lv_bipush (v := 100) hx hb dX3_layOut_72 (by decide) ?_
      refine lv_icmp_ne (x := ev_1) (y := 100) (tgt := 92) hx hb dX3_layOut_74 (by decide) (fun (c30 : ¬ (ev_1 = 100)) => ?_) (fun (c30 : ev_1 = 100) => ?_)
      · skip
        refine lv_iload_n hx hb dX3_layOut_92 rfl (lv_at hl50 3 rfl) ?_
        refine lv_bipush (v := 119) hx hb dX3_layOut_93 (by decide) ?_
        refine lv_icmp_ne (x := ev_1) (y := 119) (tgt := 113) hx hb dX3_layOut_95 (by decide) (fun (c31 : ¬ (ev_1 = 119)) => ?_) (fun (c31 : ev_1 = 119) => ?_)
        · skip
          refine lv_iload hx hb dX3_layOut_113 (lv_at hl50 0 rfl) ?_
          refine lv_bipush (v := 100) hx hb dX3_layOut_115 (by decide) ?_
          refine lv_icmp_eq (x := sg j1) (y := 100) (tgt := 136) hx hb dX3_layOut_117 (by decide) (fun (c32 : sg j1 = 100) => ?_) (fun (c32 : ¬ (sg j1 = 100)) => ?_)
          · skip
            refine lv_iload hx hb dX3_layOut_136 (lv_at hl50 0 rfl) ?_
            refine lv_bipush (v := 100) hx hb dX3_layOut_138 (by decide) ?_
            refine lv_icmp_eq (x := sg j1) (y := 100) (tgt := 150) hx hb dX3_layOut_140 (by decide) (fun (c33 : sg j1 = 100) => ?_) (fun (c33 : ¬ (sg j1 = 100)) => absurd c32 c33)
            refine lv_iload hx hb dX3_layOut_150 (lv_at hl50 0 rfl) ?_
            refine lv_goto (tgt := 156) hx hb dX3_layOut_152 (by decide) ?_
            refine lv_istore_n (lv' := [(2, .int (sg j1)), (4, .int (sg j1)), (0, .ref h0), (1, .ref (a 0)), (3, .int (nI j1))]) hx hb dX3_layOut_156 rfl hl50 (by decide) rfl (fun ls51 hl51 => ?_)
            refine lv_iinc (v := nI (j1 + 1)) (lv' := [(3, .int (nI (j1 + 1))), (2, .int (sg j1)), (4, .int (sg j1)), (0, .ref h0), (1, .ref (a 0))]) hx hb dX3_layOut_157 hl51 (k := 4) rfl (nI_1 j1) (by decide) rfl (fun ls52 hl52 => ?_)
            refine lv_goto (tgt := 49) hx hb dX3_layOut_160 (by decide) ?_
            have gg : s_X3_layOut_g L sg g = l_X3_layOut_1_g sg n1 (j1 + 1) (sg j1) g_1 := by rw [hg_1, l_X3_layOut_1_g, if_neg c30, if_neg c31, if_pos c32]
            exact ih1 (j1 + 1) (sg j1) g_1 (by omega) gg hb1 _ _ _ hP49 hD49 hS49 (lv_sub hl52 [3, 4, 1, 0] rfl)
          · skip
            refine lv_iload hx hb dX3_layOut_120 (lv_at hl50 0 rfl) ?_
            refine lv_bipush (v := 119) hx hb dX3_layOut_122 (by decide) ?_
            refine lv_icmp_eq (x := sg j1) (y := 119) (tgt := 136) hx hb dX3_layOut_124 (by decide) (fun (c34 : sg j1 = 119) => ?_) (fun (c34 : ¬ (sg j1 = 119)) => ?_)
            · skip
              refine lv_iload hx hb dX3_layOut_136 (lv_at hl50 0 rfl) ?_
              refine lv_bipush (v := 100) hx hb dX3_layOut_138 (by decide) ?_
              refine lv_icmp_eq (x := sg j1) (y := 100) (tgt := 150) hx hb dX3_layOut_140 (by decide) (fun (c35 : sg j1 = 100) => absurd c35 c32) (fun (c35 : ¬ (sg j1 = 100)) => ?_)
              refine lv_iload hx hb dX3_layOut_143 (lv_at hl50 0 rfl) ?_
              refine lv_bipush (v := 119) hx hb dX3_layOut_145 (by decide) ?_
              refine lv_icmp_ne (x := sg j1) (y := 119) (tgt := 155) hx hb dX3_layOut_147 (by decide) (fun (c36 : ¬ (sg j1 = 119)) => absurd c34 c36) (fun (c36 : sg j1 = 119) => ?_)
              refine lv_iload hx hb dX3_layOut_150 (lv_at hl50 0 rfl) ?_
              refine lv_goto (tgt := 156) hx hb dX3_layOut_152 (by decide) ?_
              refine lv_istore_n (lv' := [(2, .int (sg j1)), (4, .int (sg j1)), (0, .ref h0), (1, .ref (a 0)), (3, .int (nI j1))]) hx hb dX3_layOut_156 rfl hl50 (by decide) rfl (fun ls53 hl53 => ?_)
              refine lv_iinc (v := nI (j1 + 1)) (lv' := [(3, .int (nI (j1 + 1))), (2, .int (sg j1)), (4, .int (sg j1)), (0, .ref h0), (1, .ref (a 0))]) hx hb dX3_layOut_157 hl53 (k := 4) rfl (nI_1 j1) (by decide) rfl (fun ls54 hl54 => ?_)
              refine lv_goto (tgt := 49) hx hb dX3_layOut_160 (by decide) ?_
              have gg : s_X3_layOut_g L sg g = l_X3_layOut_1_g sg n1 (j1 + 1) (sg j1) g_1 := by rw [hg_1, l_X3_layOut_1_g, if_neg c30, if_neg c31, if_neg c32, if_pos c34]
              exact ih1 (j1 + 1) (sg j1) g_1 (by omega) gg hb1 _ _ _ hP49 hD49 hS49 (lv_sub hl54 [3, 4, 1, 0] rfl)
            · skip
              refine lv_aload_n hx hb dX3_layOut_127 rfl (lv_at hl50 2 rfl) ?_
              refine lv_iload hx hb dX3_layOut_128 (lv_at hl50 0 rfl) ?_
              refine lv_bipush (v := 48) hx hb dX3_layOut_130 (by decide) ?_
              refine lv_isub hx hb dX3_layOut_132 ?_
              refine k_callv (kRunV (As := [.int ((sg j1) - 48)]) (rest := []) kx (c_X5_run l G g_1 a ((sg j1) - 48) hb1) q_355 q_352 q_31 q_353 q_354 nX5_run ⟨Nat.le_of_ble_eq_true rfl, Nat.le_of_ble_eq_true rfl⟩ hK hP49 hD49 (kCtx_end _ _) 0 5 rfl rfl rfl rfl hl50.1 (Nat.le_of_ble_eq_true rfl) dX3_layOut_133 ⟨Nat.zero_le _, Nat.zero_le _⟩) hP49 hD49 hS49 hA (kCtx_end _ _) (fun _ => rfl) (fun g38 H55 locs55 hw hP55 hD55 hS55 => ?_)
              have hg38 : s_X5_run_g g_1 ((sg j1) - 48) = g38 := (show g38 = s_X5_run_g g_1 ((sg j1) - 48) from hw).symm
              have hP56 : va_P G.1 vwCl ([(h0, .inr (3, cX (kc (nI L)) h1)), (h1, .inl (G.2.1, 70, .inl sg))] ++ (cW a g38)) H55 := hP55
              have hD57 : va_D A ([(h0, .inr (3, cX (kc (nI L)) h1)), (h1, .inl (G.2.1, 70, .inl sg))] ++ (cW a g38)) := hD55
              refine lv_iload hx hb dX3_layOut_136 (lv_at hl50 0 rfl) ?_
              refine lv_bipush (v := 100) hx hb dX3_layOut_138 (by decide) ?_
              refine lv_icmp_eq (x := sg j1) (y := 100) (tgt := 150) hx hb dX3_layOut_140 (by decide) (fun (c39 : sg j1 = 100) => absurd c39 c32) (fun (c39 : ¬ (sg j1 = 100)) => ?_)
              refine lv_iload hx hb dX3_layOut_143 (lv_at hl50 0 rfl) ?_
              refine lv_bipush (v := 119) hx hb dX3_layOut_145 (by decide) ?_
              refine lv_icmp_ne (x := sg j1) (y := 119) (tgt := 155) hx hb dX3_layOut_147 (by decide) (fun (c40 : ¬ (sg j1 = 119)) => ?_) (fun (c40 : sg j1 = 119) => absurd c40 c34)
              refine lv_iconst (v := 0) hx hb dX3_layOut_155 (by decide) ?_
              refine lv_istore_n (lv' := [(2, .int 0), (4, .int (sg j1)), (0, .ref h0), (1, .ref (a 0)), (3, .int (nI j1))]) hx hb dX3_layOut_156 rfl hl50 (by decide) rfl (fun ls58 hl58 => ?_)
              refine lv_iinc (v := nI (j1 + 1)) (lv' := [(3, .int (nI (j1 + 1))), (2, .int 0), (4, .int (sg j1)), (0, .ref h0), (1, .ref (a 0))]) hx hb dX3_layOut_157 hl58 (k := 4) rfl (nI_1 j1) (by decide) rfl (fun ls59 hl59 => ?_)
              refine lv_goto (tgt := 49) hx hb dX3_layOut_160 (by decide) ?_
              subst hg38
              have gg : s_X3_layOut_g L sg g = l_X3_layOut_1_g sg n1 (j1 + 1) 0 (s_X5_run_g g_1 ((sg j1) - 48)) := by rw [hg_1, l_X3_layOut_1_g, if_neg c30, if_neg c31, if_neg c32, if_neg c34]
              exact ih1 (j1 + 1) 0 (s_X5_run_g g_1 ((sg j1) - 48)) (by omega) gg (b_s_X5_run_g g_1 ((sg j1) - 48) hb1) _ _ _ hP56 hD57 hS55 (lv_sub hl59 [3, 4, 1, 0] rfl)
        · skip
          refine lv_aload_n hx hb dX3_layOut_98 rfl (lv_at hl50 2 rfl) ?_
          refine lv_iload hx hb dX3_layOut_99 (lv_at hl50 0 rfl) ?_
          refine lv_bipush (v := 48) hx hb dX3_layOut_101 (by decide) ?_
          refine lv_isub hx hb dX3_layOut_103 ?_
          by_cases c41 : (sg j1) - 48 = 0
          · skip
            refine k_top (y := 0) c41 ?_
            refine k_callr (kRunV (As := [.int 0]) (rest := []) kx (c_X5_wayOf_0 l G (g_1 4) (a 0) (a 1) (a 3) (a 5) (a 7)) q_347 q_344 q_31 q_345 q_346 nX5_wayOf ⟨Nat.le_of_ble_eq_true rfl, Nat.le_of_ble_eq_true rfl⟩ hK hP49 hD49 (kCtx_places _ _ [2] rfl rfl) 0 5 rfl rfl rfl rfl hl50.1 (Nat.le_of_ble_eq_true rfl) dX3_layOut_104 ⟨Nat.zero_le _, Nat.zero_le _⟩) hP49 hD49 hS49 hA (kCtx_places _ _ [2] rfl rfl) (fun _ => rfl) (fun r42 _ H60 locs60 hw hP60 hD60 hS60 => ?_)
            have hr42 : a 5 = r42 := (show r42 = a 5 from hw).symm
            subst hr42
            have hP61 : va_P G.1 vwCl ([(h0, .inr (3, cX (kc (nI L)) h1)), (h1, .inl (G.2.1, 70, .inl sg))] ++ (cW a g_1)) H60 := hP60
            have hD62 : va_D A ([(h0, .inr (3, cX (kc (nI L)) h1)), (h1, .inl (G.2.1, 70, .inl sg))] ++ (cW a g_1)) := hD60
            refine k_callv (kRunV (As := []) (rest := []) kx (c_X4_turnOver l G (g_1 2) (a 5) (a 6)) q_351 q_348 q_34 q_349 q_350 nX4_turnOver ⟨Nat.le_of_ble_eq_true rfl, Nat.le_of_ble_eq_true rfl⟩ hK hP61 hD62 (kCtx_places _ _ [7, 8] rfl rfl) 0 4 rfl rfl rfl rfl hl50.1 (Nat.le_of_ble_eq_true rfl) dX3_layOut_107 ⟨Nat.zero_le _, Nat.zero_le _⟩) hP61 hD62 hS60 hA (kCtx_places _ _ [7, 8] rfl rfl) (fun _ => rfl) (fun F44 H63 locs63 hw hP63 hD63 hS63 => ?_)
            have hF44 : s_X4_turnOver_Y (g_1 2) = F44 := (show F44 = s_X4_turnOver_Y (g_1 2) from hw).symm
            have hP64 : va_P G.1 vwCl ([(h0, .inr (3, cX (kc (nI L)) h1)), (h1, .inl (G.2.1, 70, .inl sg))] ++ (cW a (kg (g_1 0) (g_1 1) F44 (g_1 3) (g_1 4)))) H63 := hP63
            have hD65 : va_D A ([(h0, .inr (3, cX (kc (nI L)) h1)), (h1, .inl (G.2.1, 70, .inl sg))] ++ (cW a (kg (g_1 0) (g_1 1) F44 (g_1 3) (g_1 4)))) := hD63
            refine lv_goto (tgt := 136) hx hb dX3_layOut_110 (by decide) ?_
            refine lv_iload hx hb dX3_layOut_136 (lv_at hl50 0 rfl) ?_
            refine lv_bipush (v := 100) hx hb dX3_layOut_138 (by decide) ?_
            refine lv_icmp_eq (x := sg j1) (y := 100) (tgt := 150) hx hb dX3_layOut_140 (by decide) (fun (c45 : sg j1 = 100) => ?_) (fun (c45 : ¬ (sg j1 = 100)) => ?_)
            · skip
              refine lv_iload hx hb dX3_layOut_150 (lv_at hl50 0 rfl) ?_
              refine lv_goto (tgt := 156) hx hb dX3_layOut_152 (by decide) ?_
              refine lv_istore_n (lv' := [(2, .int (sg j1)), (4, .int (sg j1)), (0, .ref h0), (1, .ref (a 0)), (3, .int (nI j1))]) hx hb dX3_layOut_156 rfl hl50 (by decide) rfl (fun ls66 hl66 => ?_)
              refine lv_iinc (v := nI (j1 + 1)) (lv' := [(3, .int (nI (j1 + 1))), (2, .int (sg j1)), (4, .int (sg j1)), (0, .ref h0), (1, .ref (a 0))]) hx hb dX3_layOut_157 hl66 (k := 4) rfl (nI_1 j1) (by decide) rfl (fun ls67 hl67 => ?_)
              refine lv_goto (tgt := 49) hx hb dX3_layOut_160 (by decide) ?_
              subst hF44
              have gg : s_X3_layOut_g L sg g = l_X3_layOut_1_g sg n1 (j1 + 1) (sg j1) (kg (g_1 0) (g_1 1) (s_X4_turnOver_Y (g_1 2)) (g_1 3) (g_1 4)) := by rw [hg_1, l_X3_layOut_1_g, if_neg c30, if_pos c31, if_pos c41, if_pos c45]
              exact ih1 (j1 + 1) (sg j1) (kg (g_1 0) (g_1 1) (s_X4_turnOver_Y (g_1 2)) (g_1 3) (g_1 4)) (by omega) gg (⟨hb1.1, hb1.2.1, (b_s_X4_turnOver_Y (g_1 2) hb1.2.2.1), hb1.2.2.2⟩) _ _ _ hP64 hD65 hS63 (lv_sub hl67 [3, 4, 1, 0] rfl)
            · skip
              refine lv_iload hx hb dX3_layOut_143 (lv_at hl50 0 rfl) ?_
              refine lv_bipush (v := 119) hx hb dX3_layOut_145 (by decide) ?_
              refine lv_icmp_ne (x := sg j1) (y := 119) (tgt := 155) hx hb dX3_layOut_147 (by decide) (fun (c46 : ¬ (sg j1 = 119)) => ?_) (fun (c46 : sg j1 = 119) => ?_)
              · skip
                refine lv_iconst (v := 0) hx hb dX3_layOut_155 (by decide) ?_
                refine lv_istore_n (lv' := [(2, .int 0), (4, .int (sg j1)), (0, .ref h0), (1, .ref (a 0)), (3, .int (nI j1))]) hx hb dX3_layOut_156 rfl hl50 (by decide) rfl (fun ls68 hl68 => ?_)
                refine lv_iinc (v := nI (j1 + 1)) (lv' := [(3, .int (nI (j1 + 1))), (2, .int 0), (4, .int (sg j1)), (0, .ref h0), (1, .ref (a 0))]) hx hb dX3_layOut_157 hl68 (k := 4) rfl (nI_1 j1) (by decide) rfl (fun ls69 hl69 => ?_)
                refine lv_goto (tgt := 49) hx hb dX3_layOut_160 (by decide) ?_
                subst hF44
                have gg : s_X3_layOut_g L sg g = l_X3_layOut_1_g sg n1 (j1 + 1) 0 (kg (g_1 0) (g_1 1) (s_X4_turnOver_Y (g_1 2)) (g_1 3) (g_1 4)) := by rw [hg_1, l_X3_layOut_1_g, if_neg c30, if_pos c31, if_pos c41, if_neg c45, if_neg c46]
                exact ih1 (j1 + 1) 0 (kg (g_1 0) (g_1 1) (s_X4_turnOver_Y (g_1 2)) (g_1 3) (g_1 4)) (by omega) gg (⟨hb1.1, hb1.2.1, (b_s_X4_turnOver_Y (g_1 2) hb1.2.2.1), hb1.2.2.2⟩) _ _ _ hP64 hD65 hS63 (lv_sub hl69 [3, 4, 1, 0] rfl)
              · skip
                refine lv_iload hx hb dX3_layOut_150 (lv_at hl50 0 rfl) ?_
                refine lv_goto (tgt := 156) hx hb dX3_layOut_152 (by decide) ?_
                refine lv_istore_n (lv' := [(2, .int (sg j1)), (4, .int (sg j1)), (0, .ref h0), (1, .ref (a 0)), (3, .int (nI j1))]) hx hb dX3_layOut_156 rfl hl50 (by decide) rfl (fun ls70 hl70 => ?_)
                refine lv_iinc (v := nI (j1 + 1)) (lv' := [(3, .int (nI (j1 + 1))), (2, .int (sg j1)), (4, .int (sg j1)), (0, .ref h0), (1, .ref (a 0))]) hx hb dX3_layOut_157 hl70 (k := 4) rfl (nI_1 j1) (by decide) rfl (fun ls71 hl71 => ?_)
                refine lv_goto (tgt := 49) hx hb dX3_layOut_160 (by decide) ?_
                subst hF44
                have gg : s_X3_layOut_g L sg g = l_X3_layOut_1_g sg n1 (j1 + 1) (sg j1) (kg (g_1 0) (g_1 1) (s_X4_turnOver_Y (g_1 2)) (g_1 3) (g_1 4)) := by rw [hg_1, l_X3_layOut_1_g, if_neg c30, if_pos c31, if_pos c41, if_neg c45, if_pos c46]
                exact ih1 (j1 + 1) (sg j1) (kg (g_1 0) (g_1 1) (s_X4_turnOver_Y (g_1 2)) (g_1 3) (g_1 4)) (by omega) gg (⟨hb1.1, hb1.2.1, (b_s_X4_turnOver_Y (g_1 2) hb1.2.2.1), hb1.2.2.2⟩) _ _ _ hP64 hD65 hS63 (lv_sub hl71 [3, 4, 1, 0] rfl)
          · skip
            refine k_callr (kRunV (As := [.int ((sg j1) - 48)]) (rest := []) kx (c_X5_wayOf_n l G (g_1 4) (a 0) (a 1) (a 3) (a 5) (a 7) ((sg j1) - 48) c41) q_347 q_344 q_31 q_345 q_346 nX5_wayOf ⟨Nat.le_of_ble_eq_true rfl, Nat.le_of_ble_eq_true rfl⟩ hK hP49 hD49 (kCtx_places _ _ [2] rfl rfl) 0 5 rfl rfl rfl rfl hl50.1 (Nat.le_of_ble_eq_true rfl) dX3_layOut_104 ⟨Nat.zero_le _, Nat.zero_le _⟩) hP49 hD49 hS49 hA (kCtx_places _ _ [2] rfl rfl) (fun _ => rfl) (fun r47 _ H72 locs72 hw hP72 hD72 hS72 => ?_)
            have hr47 : a 7 = r47 := (show r47 = a 7 from hw).symm
            subst hr47
            have hP73 : va_P G.1 vwCl ([(h0, .inr (3, cX (kc (nI L)) h1)), (h1, .inl (G.2.1, 70, .inl sg))] ++ (cW a g_1)) H72 := hP72
            have hD74 : va_D A ([(h0, .inr (3, cX (kc (nI L)) h1)), (h1, .inl (G.2.1, 70, .inl sg))] ++ (cW a g_1)) := hD72
            refine k_callv (kRunV (As := []) (rest := []) kx (c_X4_turnOver l G (g_1 3) (a 7) (a 8)) q_351 q_348 q_34 q_349 q_350 nX4_turnOver ⟨Nat.le_of_ble_eq_true rfl, Nat.le_of_ble_eq_true rfl⟩ hK hP73 hD74 (kCtx_places _ _ [9, 10] rfl rfl) 0 4 rfl rfl rfl rfl hl50.1 (Nat.le_of_ble_eq_true rfl) dX3_layOut_107 ⟨Nat.zero_le _, Nat.zero_le _⟩) hP73 hD74 hS72 hA (kCtx_places _ _ [9, 10] rfl rfl) (fun _ => rfl) (fun F49 H75 locs75 hw hP75 hD75 hS75 => ?_)
            have hF49 : s_X4_turnOver_Y (g_1 3) = F49 := (show F49 = s_X4_turnOver_Y (g_1 3) from hw).symm
            have hP76 : va_P G.1 vwCl ([(h0, .inr (3, cX (kc (nI L)) h1)), (h1, .inl (G.2.1, 70, .inl sg))] ++ (cW a (kg (g_1 0) (g_1 1) (g_1 2) F49 (g_1 4)))) H75 := hP75
            have hD77 : va_D A ([(h0, .inr (3, cX (kc (nI L)) h1)), (h1, .inl (G.2.1, 70, .inl sg))] ++ (cW a (kg (g_1 0) (g_1 1) (g_1 2) F49 (g_1 4)))) := hD75
            refine lv_goto (tgt := 136) hx hb dX3_layOut_110 (by decide) ?_
            refine lv_iload hx hb dX3_layOut_136 (lv_at hl50 0 rfl) ?_
            refine lv_bipush (v := 100) hx hb dX3_layOut_138 (by decide) ?_
            refine lv_icmp_eq (x := sg j1) (y := 100) (tgt := 150) hx hb dX3_layOut_140 (by decide) (fun (c50 : sg j1 = 100) => ?_) (fun (c50 : ¬ (sg j1 = 100)) => ?_)
            · skip
              refine lv_iload hx hb dX3_layOut_150 (lv_at hl50 0 rfl) ?_
              refine lv_goto (tgt := 156) hx hb dX3_layOut_152 (by decide) ?_
              refine lv_istore_n (lv' := [(2, .int (sg j1)), (4, .int (sg j1)), (0, .ref h0), (1, .ref (a 0)), (3, .int (nI j1))]) hx hb dX3_layOut_156 rfl hl50 (by decide) rfl (fun ls78 hl78 => ?_)
              refine lv_iinc (v := nI (j1 + 1)) (lv' := [(3, .int (nI (j1 + 1))), (2, .int (sg j1)), (4, .int (sg j1)), (0, .ref h0), (1, .ref (a 0))]) hx hb dX3_layOut_157 hl78 (k := 4) rfl (nI_1 j1) (by decide) rfl (fun ls79 hl79 => ?_)
              refine lv_goto (tgt := 49) hx hb dX3_layOut_160 (by decide) ?_
              subst hF49
              have gg : s_X3_layOut_g L sg g = l_X3_layOut_1_g sg n1 (j1 + 1) (sg j1) (kg (g_1 0) (g_1 1) (g_1 2) (s_X4_turnOver_Y (g_1 3)) (g_1 4)) := by rw [hg_1, l_X3_layOut_1_g, if_neg c30, if_pos c31, if_neg c41, if_pos c50]
              exact ih1 (j1 + 1) (sg j1) (kg (g_1 0) (g_1 1) (g_1 2) (s_X4_turnOver_Y (g_1 3)) (g_1 4)) (by omega) gg (⟨hb1.1, hb1.2.1, hb1.2.2.1, (b_s_X4_turnOver_Y (g_1 3) hb1.2.2.2)⟩) _ _ _ hP76 hD77 hS75 (lv_sub hl79 [3, 4, 1, 0] rfl)
            · skip
              refine lv_iload hx hb dX3_layOut_143 (lv_at hl50 0 rfl) ?_
              refine lv_bipush (v := 119) hx hb dX3_layOut_145 (by decide) ?_
              refine lv_icmp_ne (x := sg j1) (y := 119) (tgt := 155) hx hb dX3_layOut_147 (by decide) (fun (c51 : ¬ (sg j1 = 119)) => ?_) (fun (c51 : sg j1 = 119) => ?_)
              · skip
                refine lv_iconst (v := 0) hx hb dX3_layOut_155 (by decide) ?_
                refine lv_istore_n (lv' := [(2, .int 0), (4, .int (sg j1)), (0, .ref h0), (1, .ref (a 0)), (3, .int (nI j1))]) hx hb dX3_layOut_156 rfl hl50 (by decide) rfl (fun ls80 hl80 => ?_)
                refine lv_iinc (v := nI (j1 + 1)) (lv' := [(3, .int (nI (j1 + 1))), (2, .int 0), (4, .int (sg j1)), (0, .ref h0), (1, .ref (a 0))]) hx hb dX3_layOut_157 hl80 (k := 4) rfl (nI_1 j1) (by decide) rfl (fun ls81 hl81 => ?_)
                refine lv_goto (tgt := 49) hx hb dX3_layOut_160 (by decide) ?_
                subst hF49
                have gg : s_X3_layOut_g L sg g = l_X3_layOut_1_g sg n1 (j1 + 1) 0 (kg (g_1 0) (g_1 1) (g_1 2) (s_X4_turnOver_Y (g_1 3)) (g_1 4)) := by rw [hg_1, l_X3_layOut_1_g, if_neg c30, if_pos c31, if_neg c41, if_neg c50, if_neg c51]
                exact ih1 (j1 + 1) 0 (kg (g_1 0) (g_1 1) (g_1 2) (s_X4_turnOver_Y (g_1 3)) (g_1 4)) (by omega) gg (⟨hb1.1, hb1.2.1, hb1.2.2.1, (b_s_X4_turnOver_Y (g_1 3) hb1.2.2.2)⟩) _ _ _ hP76 hD77 hS75 (lv_sub hl81 [3, 4, 1, 0] rfl)
              · skip
                refine lv_iload hx hb dX3_layOut_150 (lv_at hl50 0 rfl) ?_
                refine lv_goto (tgt := 156) hx hb dX3_layOut_152 (by decide) ?_
                refine lv_istore_n (lv' := [(2, .int (sg j1)), (4, .int (sg j1)), (0, .ref h0), (1, .ref (a 0)), (3, .int (nI j1))]) hx hb dX3_layOut_156 rfl hl50 (by decide) rfl (fun ls82 hl82 => ?_)
                refine lv_iinc (v := nI (j1 + 1)) (lv' := [(3, .int (nI (j1 + 1))), (2, .int (sg j1)), (4, .int (sg j1)), (0, .ref h0), (1, .ref (a 0))]) hx hb dX3_layOut_157 hl82 (k := 4) rfl (nI_1 j1) (by decide) rfl (fun ls83 hl83 => ?_)
                refine lv_goto (tgt := 49) hx hb dX3_layOut_160 (by decide) ?_
                subst hF49
                have gg : s_X3_layOut_g L sg g = l_X3_layOut_1_g sg n1 (j1 + 1) (sg j1) (kg (g_1 0) (g_1 1) (g_1 2) (s_X4_turnOver_Y (g_1 3)) (g_1 4)) := by rw [hg_1, l_X3_layOut_1_g, if_neg c30, if_pos c31, if_neg c41, if_neg c50, if_pos c51]
                exact ih1 (j1 + 1) (sg j1) (kg (g_1 0) (g_1 1) (g_1 2) (s_X4_turnOver_Y (g_1 3)) (g_1 4)) (by omega) gg (⟨hb1.1, hb1.2.1, hb1.2.2.1, (b_s_X4_turnOver_Y (g_1 3) hb1.2.2.2)⟩) _ _ _ hP76 hD77 hS75 (lv_sub hl83 [3, 4, 1, 0] rfl)
      · skip
        refine lv_aload_n hx hb dX3_layOut_77 rfl (lv_at hl50 2 rfl) ?_
        refine lv_iload hx hb dX3_layOut_78 (lv_at hl50 0 rfl) ?_
        refine lv_bipush (v := 48) hx hb dX3_layOut_80 (by decide) ?_
        refine lv_isub hx hb dX3_layOut_82 ?_
        by_cases c52 : (sg j1) - 48 = 0
        · skip
          refine k_top (y := 0) c52 ?_
          refine k_callr (kRunV (As := [.int 0]) (rest := []) kx (c_X5_endOf_0 l G (g_1 4) (a 0) (a 1) (a 3) (a 5) (a 7)) q_329 q_326 q_31 q_327 q_328 nX5_endOf ⟨Nat.le_of_ble_eq_true rfl, Nat.le_of_ble_eq_true rfl⟩ hK hP49 hD49 (kCtx_places _ _ [2] rfl rfl) 0 5 rfl rfl rfl rfl hl50.1 (Nat.le_of_ble_eq_true rfl) dX3_layOut_83 ⟨Nat.zero_le _, Nat.zero_le _⟩) hP49 hD49 hS49 hA (kCtx_places _ _ [2] rfl rfl) (fun _ => rfl) (fun r53 _ H84 locs84 hw hP84 hD84 hS84 => ?_)
          have hr53 : a 1 = r53 := (show r53 = a 1 from hw).symm
          subst hr53
          have hP85 : va_P G.1 vwCl ([(h0, .inr (3, cX (kc (nI L)) h1)), (h1, .inl (G.2.1, 70, .inl sg))] ++ (cW a g_1)) H84 := hP84
          have hD86 : va_D A ([(h0, .inr (3, cX (kc (nI L)) h1)), (h1, .inl (G.2.1, 70, .inl sg))] ++ (cW a g_1)) := hD84
          refine k_callv (kRunV (As := []) (rest := []) kx (c_X0_turnDemand l G (g_1 0) (a 1) (a 2)) q_343 q_340 q_32 q_341 q_342 nX0_turnDemand ⟨Nat.le_of_ble_eq_true rfl, Nat.le_of_ble_eq_true rfl⟩ hK hP85 hD86 (kCtx_places _ _ [3, 4] rfl rfl) 0 0 rfl rfl rfl rfl hl50.1 (Nat.le_of_ble_eq_true rfl) dX3_layOut_86 ⟨Nat.zero_le _, Nat.zero_le _⟩) hP85 hD86 hS84 hA (kCtx_places _ _ [3, 4] rfl rfl) (fun _ => rfl) (fun F55 H87 locs87 hw hP87 hD87 hS87 => ?_)
          have hF55 : s_X0_turnDemand_X (g_1 0) = F55 := (show F55 = s_X0_turnDemand_X (g_1 0) from hw).symm
          have hP88 : va_P G.1 vwCl ([(h0, .inr (3, cX (kc (nI L)) h1)), (h1, .inl (G.2.1, 70, .inl sg))] ++ (cW a (kg F55 (g_1 1) (g_1 2) (g_1 3) (g_1 4)))) H87 := hP87
          have hD89 : va_D A ([(h0, .inr (3, cX (kc (nI L)) h1)), (h1, .inl (G.2.1, 70, .inl sg))] ++ (cW a (kg F55 (g_1 1) (g_1 2) (g_1 3) (g_1 4)))) := hD87
          refine lv_goto (tgt := 136) hx hb dX3_layOut_89 (by decide) ?_
          refine lv_iload hx hb dX3_layOut_136 (lv_at hl50 0 rfl) ?_
          refine lv_bipush (v := 100) hx hb dX3_layOut_138 (by decide) ?_
          refine lv_icmp_eq (x := sg j1) (y := 100) (tgt := 150) hx hb dX3_layOut_140 (by decide) (fun (c56 : sg j1 = 100) => ?_) (fun (c56 : ¬ (sg j1 = 100)) => ?_)
          · skip
            refine lv_iload hx hb dX3_layOut_150 (lv_at hl50 0 rfl) ?_
            refine lv_goto (tgt := 156) hx hb dX3_layOut_152 (by decide) ?_
            refine lv_istore_n (lv' := [(2, .int (sg j1)), (4, .int (sg j1)), (0, .ref h0), (1, .ref (a 0)), (3, .int (nI j1))]) hx hb dX3_layOut_156 rfl hl50 (by decide) rfl (fun ls90 hl90 => ?_)
            refine lv_iinc (v := nI (j1 + 1)) (lv' := [(3, .int (nI (j1 + 1))), (2, .int (sg j1)), (4, .int (sg j1)), (0, .ref h0), (1, .ref (a 0))]) hx hb dX3_layOut_157 hl90 (k := 4) rfl (nI_1 j1) (by decide) rfl (fun ls91 hl91 => ?_)
            refine lv_goto (tgt := 49) hx hb dX3_layOut_160 (by decide) ?_
            subst hF55
            have gg : s_X3_layOut_g L sg g = l_X3_layOut_1_g sg n1 (j1 + 1) (sg j1) (kg (s_X0_turnDemand_X (g_1 0)) (g_1 1) (g_1 2) (g_1 3) (g_1 4)) := by rw [hg_1, l_X3_layOut_1_g, if_pos c30, if_pos c52, if_pos c56]
            exact ih1 (j1 + 1) (sg j1) (kg (s_X0_turnDemand_X (g_1 0)) (g_1 1) (g_1 2) (g_1 3) (g_1 4)) (by omega) gg (⟨(b_s_X0_turnDemand_X (g_1 0) hb1.1), hb1.2.1, hb1.2.2.1, hb1.2.2.2⟩) _ _ _ hP88 hD89 hS87 (lv_sub hl91 [3, 4, 1, 0] rfl)
          · skip
            refine lv_iload hx hb dX3_layOut_143 (lv_at hl50 0 rfl) ?_
            refine lv_bipush (v := 119) hx hb dX3_layOut_145 (by decide) ?_
            refine lv_icmp_ne (x := sg j1) (y := 119) (tgt := 155) hx hb dX3_layOut_147 (by decide) (fun (c57 : ¬ (sg j1 = 119)) => ?_) (fun (c57 : sg j1 = 119) => ?_)
            · skip
              refine lv_iconst (v := 0) hx hb dX3_layOut_155 (by decide) ?_
              refine lv_istore_n (lv' := [(2, .int 0), (4, .int (sg j1)), (0, .ref h0), (1, .ref (a 0)), (3, .int (nI j1))]) hx hb dX3_layOut_156 rfl hl50 (by decide) rfl (fun ls92 hl92 => ?_)
              refine lv_iinc (v := nI (j1 + 1)) (lv' := [(3, .int (nI (j1 + 1))), (2, .int 0), (4, .int (sg j1)), (0, .ref h0), (1, .ref (a 0))]) hx hb dX3_layOut_157 hl92 (k := 4) rfl (nI_1 j1) (by decide) rfl (fun ls93 hl93 => ?_)
              refine lv_goto (tgt := 49) hx hb dX3_layOut_160 (by decide) ?_
              subst hF55
              have gg : s_X3_layOut_g L sg g = l_X3_layOut_1_g sg n1 (j1 + 1) 0 (kg (s_X0_turnDemand_X (g_1 0)) (g_1 1) (g_1 2) (g_1 3) (g_1 4)) := by rw [hg_1, l_X3_layOut_1_g, if_pos c30, if_pos c52, if_neg c56, if_neg c57]
              exact ih1 (j1 + 1) 0 (kg (s_X0_turnDemand_X (g_1 0)) (g_1 1) (g_1 2) (g_1 3) (g_1 4)) (by omega) gg (⟨(b_s_X0_turnDemand_X (g_1 0) hb1.1), hb1.2.1, hb1.2.2.1, hb1.2.2.2⟩) _ _ _ hP88 hD89 hS87 (lv_sub hl93 [3, 4, 1, 0] rfl)
            · skip
              refine lv_iload hx hb dX3_layOut_150 (lv_at hl50 0 rfl) ?_
              refine lv_goto (tgt := 156) hx hb dX3_layOut_152 (by decide) ?_
              refine lv_istore_n (lv' := [(2, .int (sg j1)), (4, .int (sg j1)), (0, .ref h0), (1, .ref (a 0)), (3, .int (nI j1))]) hx hb dX3_layOut_156 rfl hl50 (by decide) rfl (fun ls94 hl94 => ?_)
              refine lv_iinc (v := nI (j1 + 1)) (lv' := [(3, .int (nI (j1 + 1))), (2, .int (sg j1)), (4, .int (sg j1)), (0, .ref h0), (1, .ref (a 0))]) hx hb dX3_layOut_157 hl94 (k := 4) rfl (nI_1 j1) (by decide) rfl (fun ls95 hl95 => ?_)
              refine lv_goto (tgt := 49) hx hb dX3_layOut_160 (by decide) ?_
              subst hF55
              have gg : s_X3_layOut_g L sg g = l_X3_layOut_1_g sg n1 (j1 + 1) (sg j1) (kg (s_X0_turnDemand_X (g_1 0)) (g_1 1) (g_1 2) (g_1 3) (g_1 4)) := by rw [hg_1, l_X3_layOut_1_g, if_pos c30, if_pos c52, if_neg c56, if_pos c57]
              exact ih1 (j1 + 1) (sg j1) (kg (s_X0_turnDemand_X (g_1 0)) (g_1 1) (g_1 2) (g_1 3) (g_1 4)) (by omega) gg (⟨(b_s_X0_turnDemand_X (g_1 0) hb1.1), hb1.2.1, hb1.2.2.1, hb1.2.2.2⟩) _ _ _ hP88 hD89 hS87 (lv_sub hl95 [3, 4, 1, 0] rfl)
        · skip
          refine k_callr (kRunV (As := [.int ((sg j1) - 48)]) (rest := []) kx (c_X5_endOf_n l G (g_1 4) (a 0) (a 1) (a 3) (a 5) (a 7) ((sg j1) - 48) c52) q_329 q_326 q_31 q_327 q_328 nX5_endOf ⟨Nat.le_of_ble_eq_true rfl, Nat.le_of_ble_eq_true rfl⟩ hK hP49 hD49 (kCtx_places _ _ [2] rfl rfl) 0 5 rfl rfl rfl rfl hl50.1 (Nat.le_of_ble_eq_true rfl) dX3_layOut_83 ⟨Nat.zero_le _, Nat.zero_le _⟩) hP49 hD49 hS49 hA (kCtx_places _ _ [2] rfl rfl) (fun _ => rfl) (fun r58 _ H96 locs96 hw hP96 hD96 hS96 => ?_)
          have hr58 : a 3 = r58 := (show r58 = a 3 from hw).symm
          subst hr58
          have hP97 : va_P G.1 vwCl ([(h0, .inr (3, cX (kc (nI L)) h1)), (h1, .inl (G.2.1, 70, .inl sg))] ++ (cW a g_1)) H96 := hP96
          have hD98 : va_D A ([(h0, .inr (3, cX (kc (nI L)) h1)), (h1, .inl (G.2.1, 70, .inl sg))] ++ (cW a g_1)) := hD96
          refine k_callv (kRunV (As := []) (rest := []) kx (c_X0_turnDemand l G (g_1 1) (a 3) (a 4)) q_343 q_340 q_32 q_341 q_342 nX0_turnDemand ⟨Nat.le_of_ble_eq_true rfl, Nat.le_of_ble_eq_true rfl⟩ hK hP97 hD98 (kCtx_places _ _ [5, 6] rfl rfl) 0 0 rfl rfl rfl rfl hl50.1 (Nat.le_of_ble_eq_true rfl) dX3_layOut_86 ⟨Nat.zero_le _, Nat.zero_le _⟩) hP97 hD98 hS96 hA (kCtx_places _ _ [5, 6] rfl rfl) (fun _ => rfl) (fun F60 H99 locs99 hw hP99 hD99 hS99 => ?_)
          have hF60 : s_X0_turnDemand_X (g_1 1) = F60 := (show F60 = s_X0_turnDemand_X (g_1 1) from hw).symm
          have hP100 : va_P G.1 vwCl ([(h0, .inr (3, cX (kc (nI L)) h1)), (h1, .inl (G.2.1, 70, .inl sg))] ++ (cW a (kg (g_1 0) F60 (g_1 2) (g_1 3) (g_1 4)))) H99 := hP99
          have hD101 : va_D A ([(h0, .inr (3, cX (kc (nI L)) h1)), (h1, .inl (G.2.1, 70, .inl sg))] ++ (cW a (kg (g_1 0) F60 (g_1 2) (g_1 3) (g_1 4)))) := hD99
          refine lv_goto (tgt := 136) hx hb dX3_layOut_89 (by decide) ?_
          refine lv_iload hx hb dX3_layOut_136 (lv_at hl50 0 rfl) ?_
          refine lv_bipush (v := 100) hx hb dX3_layOut_138 (by decide) ?_
          refine lv_icmp_eq (x := sg j1) (y := 100) (tgt := 150) hx hb dX3_layOut_140 (by decide) (fun (c61 : sg j1 = 100) => ?_) (fun (c61 : ¬ (sg j1 = 100)) => ?_)
          · skip
            refine lv_iload hx hb dX3_layOut_150 (lv_at hl50 0 rfl) ?_
            refine lv_goto (tgt := 156) hx hb dX3_layOut_152 (by decide) ?_
            refine lv_istore_n (lv' := [(2, .int (sg j1)), (4, .int (sg j1)), (0, .ref h0), (1, .ref (a 0)), (3, .int (nI j1))]) hx hb dX3_layOut_156 rfl hl50 (by decide) rfl (fun ls102 hl102 => ?_)
            refine lv_iinc (v := nI (j1 + 1)) (lv' := [(3, .int (nI (j1 + 1))), (2, .int (sg j1)), (4, .int (sg j1)), (0, .ref h0), (1, .ref (a 0))]) hx hb dX3_layOut_157 hl102 (k := 4) rfl (nI_1 j1) (by decide) rfl (fun ls103 hl103 => ?_)
            refine lv_goto (tgt := 49) hx hb dX3_layOut_160 (by decide) ?_
            subst hF60
            have gg : s_X3_layOut_g L sg g = l_X3_layOut_1_g sg n1 (j1 + 1) (sg j1) (kg (g_1 0) (s_X0_turnDemand_X (g_1 1)) (g_1 2) (g_1 3) (g_1 4)) := by rw [hg_1, l_X3_layOut_1_g, if_pos c30, if_neg c52, if_pos c61]
            exact ih1 (j1 + 1) (sg j1) (kg (g_1 0) (s_X0_turnDemand_X (g_1 1)) (g_1 2) (g_1 3) (g_1 4)) (by omega) gg (⟨hb1.1, (b_s_X0_turnDemand_X (g_1 1) hb1.2.1), hb1.2.2.1, hb1.2.2.2⟩) _ _ _ hP100 hD101 hS99 (lv_sub hl103 [3, 4, 1, 0] rfl)
          · skip
            refine lv_iload hx hb dX3_layOut_143 (lv_at hl50 0 rfl) ?_
            refine lv_bipush (v := 119) hx hb dX3_layOut_145 (by decide) ?_
            refine lv_icmp_ne (x := sg j1) (y := 119) (tgt := 155) hx hb dX3_layOut_147 (by decide) (fun (c62 : ¬ (sg j1 = 119)) => ?_) (fun (c62 : sg j1 = 119) => ?_)
            · skip
              refine lv_iconst (v := 0) hx hb dX3_layOut_155 (by decide) ?_
              refine lv_istore_n (lv' := [(2, .int 0), (4, .int (sg j1)), (0, .ref h0), (1, .ref (a 0)), (3, .int (nI j1))]) hx hb dX3_layOut_156 rfl hl50 (by decide) rfl (fun ls104 hl104 => ?_)
              refine lv_iinc (v := nI (j1 + 1)) (lv' := [(3, .int (nI (j1 + 1))), (2, .int 0), (4, .int (sg j1)), (0, .ref h0), (1, .ref (a 0))]) hx hb dX3_layOut_157 hl104 (k := 4) rfl (nI_1 j1) (by decide) rfl (fun ls105 hl105 => ?_)
              refine lv_goto (tgt := 49) hx hb dX3_layOut_160 (by decide) ?_
              subst hF60
              have gg : s_X3_layOut_g L sg g = l_X3_layOut_1_g sg n1 (j1 + 1) 0 (kg (g_1 0) (s_X0_turnDemand_X (g_1 1)) (g_1 2) (g_1 3) (g_1 4)) := by rw [hg_1, l_X3_layOut_1_g, if_pos c30, if_neg c52, if_neg c61, if_neg c62]
              exact ih1 (j1 + 1) 0 (kg (g_1 0) (s_X0_turnDemand_X (g_1 1)) (g_1 2) (g_1 3) (g_1 4)) (by omega) gg (⟨hb1.1, (b_s_X0_turnDemand_X (g_1 1) hb1.2.1), hb1.2.2.1, hb1.2.2.2⟩) _ _ _ hP100 hD101 hS99 (lv_sub hl105 [3, 4, 1, 0] rfl)
            · skip
              refine lv_iload hx hb dX3_layOut_150 (lv_at hl50 0 rfl) ?_
              refine lv_goto (tgt := 156) hx hb dX3_layOut_152 (by decide) ?_
              refine lv_istore_n (lv' := [(2, .int (sg j1)), (4, .int (sg j1)), (0, .ref h0), (1, .ref (a 0)), (3, .int (nI j1))]) hx hb dX3_layOut_156 rfl hl50 (by decide) rfl (fun ls106 hl106 => ?_)
              refine lv_iinc (v := nI (j1 + 1)) (lv' := [(3, .int (nI (j1 + 1))), (2, .int (sg j1)), (4, .int (sg j1)), (0, .ref h0), (1, .ref (a 0))]) hx hb dX3_layOut_157 hl106 (k := 4) rfl (nI_1 j1) (by decide) rfl (fun ls107 hl107 => ?_)
              refine lv_goto (tgt := 49) hx hb dX3_layOut_160 (by decide) ?_
              subst hF60
              have gg : s_X3_layOut_g L sg g = l_X3_layOut_1_g sg n1 (j1 + 1) (sg j1) (kg (g_1 0) (s_X0_turnDemand_X (g_1 1)) (g_1 2) (g_1 3) (g_1 4)) := by rw [hg_1, l_X3_layOut_1_g, if_pos c30, if_neg c52, if_neg c61, if_pos c62]
              exact ih1 (j1 + 1) (sg j1) (kg (g_1 0) (s_X0_turnDemand_X (g_1 1)) (g_1 2) (g_1 3) (g_1 4)) (by omega) gg (⟨hb1.1, (b_s_X0_turnDemand_X (g_1 1) hb1.2.1), hb1.2.2.1, hb1.2.2.2⟩) _ _ _ hP100 hD101 hS99 (lv_sub hl107 [3, 4, 1, 0] rfl)
  have gg : s_X3_layOut_g L sg g = l_X3_layOut_1_g sg (L - 7) 7 0 (kg (s_X0_takeSetting_X (s_X0_takeSetting_X (s_X0_takeSetting_X (upd (upd (upd (upd (upd (upd (upd (upd (upd (upd (upd (upd (upd (upd (upd (upd (g 0) 0 1) 1 1) 2 1) 3 1) 4 1) 5 0) 8 0) 9 0) 6 0) 7 0) 10 0) 11 0) 12 1) 13 1) 14 1) 15 0) 0 ((sg 1) - 48)) 1 ((sg 2) - 48)) 2 ((sg 3) - 48)) (s_X0_takeSetting_X (s_X0_takeSetting_X (s_X0_takeSetting_X (upd (upd (upd (upd (upd (upd (upd (upd (upd (upd (upd (upd (upd (upd (upd (upd (g 1) 0 1) 1 1) 2 1) 3 1) 4 1) 5 0) 8 0) 9 0) 6 0) 7 0) 10 0) 11 0) 12 1) 13 1) 14 1) 15 0) 0 ((sg 4) - 48)) 1 ((sg 5) - 48)) 2 ((sg 6) - 48)) (upd (upd (upd (upd (upd (upd (upd (upd (upd (upd (upd (g 2) 9 1) 0 0) 6 0) 7 0) 8 0) 10 0) 1 0) 2 1) 3 1) 4 1) 5 0) (upd (upd (upd (upd (upd (upd (upd (upd (upd (upd (upd (g 3) 9 1) 0 0) 6 0) 7 0) 8 0) 10 0) 1 0) 2 1) 3 1) 4 1) 5 0) (upd (upd (upd (upd (g 4) 0 0) 1 0) 2 0) 3 0)) := by rw [s_X3_layOut_g]
  exact lp1 (L - 7) 7 0 (kg (s_X0_takeSetting_X (s_X0_takeSetting_X (s_X0_takeSetting_X (upd (upd (upd (upd (upd (upd (upd (upd (upd (upd (upd (upd (upd (upd (upd (upd (g 0) 0 1) 1 1) 2 1) 3 1) 4 1) 5 0) 8 0) 9 0) 6 0) 7 0) 10 0) 11 0) 12 1) 13 1) 14 1) 15 0) 0 ((sg 1) - 48)) 1 ((sg 2) - 48)) 2 ((sg 3) - 48)) (s_X0_takeSetting_X (s_X0_takeSetting_X (s_X0_takeSetting_X (upd (upd (upd (upd (upd (upd (upd (upd (upd (upd (upd (upd (upd (upd (upd (upd (g 1) 0 1) 1 1) 2 1) 3 1) 4 1) 5 0) 8 0) 9 0) 6 0) 7 0) 10 0) 11 0) 12 1) 13 1) 14 1) 15 0) 0 ((sg 4) - 48)) 1 ((sg 5) - 48)) 2 ((sg 6) - 48)) (upd (upd (upd (upd (upd (upd (upd (upd (upd (upd (upd (g 2) 9 1) 0 0) 6 0) 7 0) 8 0) 10 0) 1 0) 2 1) 3 1) 4 1) 5 0) (upd (upd (upd (upd (upd (upd (upd (upd (upd (upd (upd (g 3) 9 1) 0 0) 6 0) 7 0) 8 0) 10 0) 1 0) 2 1) 3 1) 4 1) 5 0) (upd (upd (upd (upd (g 4) 0 0) 1 0) 2 0) 3 0)) (by omega) gg (⟨(b_s_X0_takeSetting_X (s_X0_takeSetting_X (s_X0_takeSetting_X (upd (upd (upd (upd (upd (upd (upd (upd (upd (upd (upd (upd (upd (upd (upd (upd (g 0) 0 1) 1 1) 2 1) 3 1) 4 1) 5 0) 8 0) 9 0) 6 0) 7 0) 10 0) 11 0) 12 1) 13 1) 14 1) 15 0) 0 ((sg 1) - 48)) 1 ((sg 2) - 48)) 2 ((sg 3) - 48) (b_s_X0_takeSetting_X (s_X0_takeSetting_X (upd (upd (upd (upd (upd (upd (upd (upd (upd (upd (upd (upd (upd (upd (upd (upd (g 0) 0 1) 1 1) 2 1) 3 1) 4 1) 5 0) 8 0) 9 0) 6 0) 7 0) 10 0) 11 0) 12 1) 13 1) 14 1) 15 0) 0 ((sg 1) - 48)) 1 ((sg 2) - 48) (b_s_X0_takeSetting_X (upd (upd (upd (upd (upd (upd (upd (upd (upd (upd (upd (upd (upd (upd (upd (upd (g 0) 0 1) 1 1) 2 1) 3 1) 4 1) 5 0) 8 0) 9 0) 6 0) 7 0) 10 0) 11 0) 12 1) 13 1) 14 1) 15 0) 0 ((sg 1) - 48) (⟨kb0, kb0, kb0, kb0⟩)))), (b_s_X0_takeSetting_X (s_X0_takeSetting_X (s_X0_takeSetting_X (upd (upd (upd (upd (upd (upd (upd (upd (upd (upd (upd (upd (upd (upd (upd (upd (g 1) 0 1) 1 1) 2 1) 3 1) 4 1) 5 0) 8 0) 9 0) 6 0) 7 0) 10 0) 11 0) 12 1) 13 1) 14 1) 15 0) 0 ((sg 4) - 48)) 1 ((sg 5) - 48)) 2 ((sg 6) - 48) (b_s_X0_takeSetting_X (s_X0_takeSetting_X (upd (upd (upd (upd (upd (upd (upd (upd (upd (upd (upd (upd (upd (upd (upd (upd (g 1) 0 1) 1 1) 2 1) 3 1) 4 1) 5 0) 8 0) 9 0) 6 0) 7 0) 10 0) 11 0) 12 1) 13 1) 14 1) 15 0) 0 ((sg 4) - 48)) 1 ((sg 5) - 48) (b_s_X0_takeSetting_X (upd (upd (upd (upd (upd (upd (upd (upd (upd (upd (upd (upd (upd (upd (upd (upd (g 1) 0 1) 1 1) 2 1) 3 1) 4 1) 5 0) 8 0) 9 0) 6 0) 7 0) 10 0) 11 0) 12 1) 13 1) 14 1) 15 0) 0 ((sg 4) - 48) (⟨kb0, kb0, kb0, kb0⟩)))), ⟨kb0, kb0, kb0, kb0, kb0, kb1⟩, ⟨kb0, kb0, kb0, kb0, kb0, kb1⟩⟩) _ _ _ hP44 hD45 hS43 (lv_sub hl48 [2, 3, 1, 0] rfl)
