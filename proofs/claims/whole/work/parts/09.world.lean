theorem kadd {x y : Int32} {a b : Nat} (hx : x = nI a) (hy : y = nI b) : x + y = nI (a + b) := by rw [hx, hy]; exact nI_add a b
theorem kmul {x y : Int32} {a b : Nat} (hx : x = nI a) (hy : y = nI b) : x * y = nI (a * b) := by rw [hx, hy]; exact pk_mul a b
theorem kle_z {b : Int32} {N j : Nat} (hb : b = nI N) (hj : j + 0 = N) : b ≤ nI j := by
  rw [hb, ← hj]; exact Int32.le_refl _
theorem kle_s {b : Int32} {N j n : Nat} (hb : b = nI N) (hj : j + (n + 1) = N) (hN : N < 2 ^ 31) : ¬ b ≤ nI j := by
  rw [hb]; intro h
  have := (nI_leI hN (by omega)).mp h
  omega
theorem klt_z {b : Int32} {M j : Nat} (hb : b = nI M) (hj : j + 0 = M + 1) (hN : M + 1 < 2 ^ 31) : b < nI j := by
  rw [hb]; exact (nI_ltI (by omega) (by omega)).mpr (by omega)
theorem klt_s {b : Int32} {M j n : Nat} (hb : b = nI M) (hj : j + (n + 1) = M + 1) (hN : M + 1 < 2 ^ 31) : ¬ b < nI j := by
  rw [hb]; intro h
  have := (nI_ltI (by omega) (by omega)).mp h
  omega
theorem kinc_neg (x : Int32) {n : Int} {m : Int32} (h : Int32.ofInt n = -m) : x + Int32.ofInt n = x - m := by rw [h, Int32.sub_eq_add_neg]

set_option maxHeartbeats 4000000 in
set_option maxRecDepth 100000 in
theorem c_X5_reset (l : Launch) (G : kG) (g : Nat → Nat → Int32) (a : Nat → Nat) : cG l G yX5_reset cX5_reset 1 none 2 [.ref (a 0)] (cW a g) (qV G (fun _ : Unit => True) (fun _ => cW a (kg (upd (upd (upd (upd (upd (upd (upd (upd (upd (upd (upd (upd (upd (upd (upd (upd (g 0) 0 1) 1 1) 2 1) 3 1) 4 1) 5 0) 8 0) 9 0) 6 0) 7 0) 10 0) 11 0) 12 1) 13 1) 14 1) 15 0) (upd (upd (upd (upd (upd (upd (upd (upd (upd (upd (upd (upd (upd (upd (upd (upd (g 1) 0 1) 1 1) 2 1) 3 1) 4 1) 5 0) 8 0) 9 0) 6 0) 7 0) 10 0) 11 0) 12 1) 13 1) 14 1) 15 0) (upd (upd (upd (upd (upd (upd (upd (upd (upd (upd (upd (g 2) 9 1) 0 0) 6 0) 7 0) 8 0) 10 0) 1 0) 2 1) 3 1) 4 1) 5 0) (upd (upd (upd (upd (upd (upd (upd (upd (upd (upd (upd (g 3) 9 1) 0 0) 6 0) 7 0) 8 0) 10 0) 1 0) 2 1) 3 1) 4 1) 5 0) (upd (upd (upd (upd (g 4) 0 0) 1 0) 2 0) 3 0)))) := by
  refine kintro (by decide) (Nat.le_of_ble_eq_true rfl) ?_
  intro p e s m args below meth c A ls kx hK hP hD hS hA hl
  have kx : kX p s m args meth c cX5_reset 1 none RX5 := kx
  have hx := kx.1
  have hb := kx.2.1
  have hown := kx.2.2.2.2.1
  have ht := kx.2.2.2.2.2.2
  have hl : lv_has ls 1 [(0, .ref (a 0))] := hl
  refine lv_aload_n hx hb dX5_reset_0 rfl (lv_at hl 0 rfl) ?_
  refine va_get (ci := 5) (v := .ref (a 1)) (C := RX5) (T := TX5) (N := 8) hx hb ht inX5 hown hK.1 hP 0 rfl rfl 0 (by decide) (ht _ q_208) (fun _ h9 => h9) rfl dX5_reset_1 ?_
  refine k_callv (kRunV (As := []) (rest := []) kx (c_X0_reset l G (g 0) (a 1) (a 2)) q_198 q_195 q_32 q_196 q_197 nX0_reset ⟨Nat.le_of_ble_eq_true rfl, Nat.le_of_ble_eq_true rfl⟩ hK hP hD (kCtx_places _ _ [1, 2] rfl rfl) 0 0 rfl rfl rfl rfl hl.1 (Nat.le_of_ble_eq_true rfl) dX5_reset_4 ⟨Nat.zero_le _, Nat.zero_le _⟩) hP hD hS hA (kCtx_places _ _ [1, 2] rfl rfl) (fun _ => rfl) (fun _ H1 locs1 hw hP1 hD1 hS1 => ?_)
  have hP2 : va_P G.1 vwCl (cW a (kg (upd (upd (upd (upd (upd (upd (upd (upd (upd (upd (upd (upd (upd (upd (upd (upd (g 0) 0 1) 1 1) 2 1) 3 1) 4 1) 5 0) 8 0) 9 0) 6 0) 7 0) 10 0) 11 0) 12 1) 13 1) 14 1) 15 0) (g 1) (g 2) (g 3) (g 4))) H1 := hP1
  have hD3 : va_D A (cW a (kg (upd (upd (upd (upd (upd (upd (upd (upd (upd (upd (upd (upd (upd (upd (upd (upd (g 0) 0 1) 1 1) 2 1) 3 1) 4 1) 5 0) 8 0) 9 0) 6 0) 7 0) 10 0) 11 0) 12 1) 13 1) 14 1) 15 0) (g 1) (g 2) (g 3) (g 4))) := hD1
  refine lv_aload_n hx hb dX5_reset_7 rfl (lv_at hl 0 rfl) ?_
  refine va_get (ci := 5) (v := .ref (a 3)) (C := RX5) (T := TX5) (N := 8) hx hb ht inX5 hown hK.1 hP2 0 rfl rfl 1 (by decide) (ht _ q_210) (fun _ h9 => h9) rfl dX5_reset_8 ?_
  refine k_callv (kRunV (As := []) (rest := []) kx (c_X0_reset l G (g 1) (a 3) (a 4)) q_198 q_195 q_32 q_196 q_197 nX0_reset ⟨Nat.le_of_ble_eq_true rfl, Nat.le_of_ble_eq_true rfl⟩ hK hP2 hD3 (kCtx_places _ _ [3, 4] rfl rfl) 0 0 rfl rfl rfl rfl hl.1 (Nat.le_of_ble_eq_true rfl) dX5_reset_11 ⟨Nat.zero_le _, Nat.zero_le _⟩) hP2 hD3 hS1 hA (kCtx_places _ _ [3, 4] rfl rfl) (fun _ => rfl) (fun _ H4 locs4 hw hP4 hD4 hS4 => ?_)
  have hP5 : va_P G.1 vwCl (cW a (kg (upd (upd (upd (upd (upd (upd (upd (upd (upd (upd (upd (upd (upd (upd (upd (upd (g 0) 0 1) 1 1) 2 1) 3 1) 4 1) 5 0) 8 0) 9 0) 6 0) 7 0) 10 0) 11 0) 12 1) 13 1) 14 1) 15 0) (upd (upd (upd (upd (upd (upd (upd (upd (upd (upd (upd (upd (upd (upd (upd (upd (g 1) 0 1) 1 1) 2 1) 3 1) 4 1) 5 0) 8 0) 9 0) 6 0) 7 0) 10 0) 11 0) 12 1) 13 1) 14 1) 15 0) (g 2) (g 3) (g 4))) H4 := hP4
  have hD6 : va_D A (cW a (kg (upd (upd (upd (upd (upd (upd (upd (upd (upd (upd (upd (upd (upd (upd (upd (upd (g 0) 0 1) 1 1) 2 1) 3 1) 4 1) 5 0) 8 0) 9 0) 6 0) 7 0) 10 0) 11 0) 12 1) 13 1) 14 1) 15 0) (upd (upd (upd (upd (upd (upd (upd (upd (upd (upd (upd (upd (upd (upd (upd (upd (g 1) 0 1) 1 1) 2 1) 3 1) 4 1) 5 0) 8 0) 9 0) 6 0) 7 0) 10 0) 11 0) 12 1) 13 1) 14 1) 15 0) (g 2) (g 3) (g 4))) := hD4
  refine lv_aload_n hx hb dX5_reset_14 rfl (lv_at hl 0 rfl) ?_
  refine va_get (ci := 5) (v := .ref (a 5)) (C := RX5) (T := TX5) (N := 8) hx hb ht inX5 hown hK.1 hP5 0 rfl rfl 2 (by decide) (ht _ q_212) (fun _ h9 => h9) rfl dX5_reset_15 ?_
  refine k_callv (kRunV (As := []) (rest := []) kx (c_X4_reset l G (g 2) (a 5) (a 6)) q_206 q_203 q_34 q_204 q_205 nX4_reset ⟨Nat.le_of_ble_eq_true rfl, Nat.le_of_ble_eq_true rfl⟩ hK hP5 hD6 (kCtx_places _ _ [5, 6] rfl rfl) 0 4 rfl rfl rfl rfl hl.1 (Nat.le_of_ble_eq_true rfl) dX5_reset_18 ⟨Nat.zero_le _, Nat.zero_le _⟩) hP5 hD6 hS4 hA (kCtx_places _ _ [5, 6] rfl rfl) (fun _ => rfl) (fun _ H7 locs7 hw hP7 hD7 hS7 => ?_)
  have hP8 : va_P G.1 vwCl (cW a (kg (upd (upd (upd (upd (upd (upd (upd (upd (upd (upd (upd (upd (upd (upd (upd (upd (g 0) 0 1) 1 1) 2 1) 3 1) 4 1) 5 0) 8 0) 9 0) 6 0) 7 0) 10 0) 11 0) 12 1) 13 1) 14 1) 15 0) (upd (upd (upd (upd (upd (upd (upd (upd (upd (upd (upd (upd (upd (upd (upd (upd (g 1) 0 1) 1 1) 2 1) 3 1) 4 1) 5 0) 8 0) 9 0) 6 0) 7 0) 10 0) 11 0) 12 1) 13 1) 14 1) 15 0) (upd (upd (upd (upd (upd (upd (upd (upd (upd (upd (upd (g 2) 9 1) 0 0) 6 0) 7 0) 8 0) 10 0) 1 0) 2 1) 3 1) 4 1) 5 0) (g 3) (g 4))) H7 := hP7
  have hD9 : va_D A (cW a (kg (upd (upd (upd (upd (upd (upd (upd (upd (upd (upd (upd (upd (upd (upd (upd (upd (g 0) 0 1) 1 1) 2 1) 3 1) 4 1) 5 0) 8 0) 9 0) 6 0) 7 0) 10 0) 11 0) 12 1) 13 1) 14 1) 15 0) (upd (upd (upd (upd (upd (upd (upd (upd (upd (upd (upd (upd (upd (upd (upd (upd (g 1) 0 1) 1 1) 2 1) 3 1) 4 1) 5 0) 8 0) 9 0) 6 0) 7 0) 10 0) 11 0) 12 1) 13 1) 14 1) 15 0) (upd (upd (upd (upd (upd (upd (upd (upd (upd (upd (upd (g 2) 9 1) 0 0) 6 0) 7 0) 8 0) 10 0) 1 0) 2 1) 3 1) 4 1) 5 0) (g 3) (g 4))) := hD7
  refine lv_aload_n hx hb dX5_reset_21 rfl (lv_at hl 0 rfl) ?_
  refine va_get (ci := 5) (v := .ref (a 7)) (C := RX5) (T := TX5) (N := 8) hx hb ht inX5 hown hK.1 hP8 0 rfl rfl 3 (by decide) (ht _ q_214) (fun _ h9 => h9) rfl dX5_reset_22 ?_
  refine k_callv (kRunV (As := []) (rest := []) kx (c_X4_reset l G (g 3) (a 7) (a 8)) q_206 q_203 q_34 q_204 q_205 nX4_reset ⟨Nat.le_of_ble_eq_true rfl, Nat.le_of_ble_eq_true rfl⟩ hK hP8 hD9 (kCtx_places _ _ [7, 8] rfl rfl) 0 4 rfl rfl rfl rfl hl.1 (Nat.le_of_ble_eq_true rfl) dX5_reset_25 ⟨Nat.zero_le _, Nat.zero_le _⟩) hP8 hD9 hS7 hA (kCtx_places _ _ [7, 8] rfl rfl) (fun _ => rfl) (fun _ H10 locs10 hw hP10 hD10 hS10 => ?_)
  have hP11 : va_P G.1 vwCl (cW a (kg (upd (upd (upd (upd (upd (upd (upd (upd (upd (upd (upd (upd (upd (upd (upd (upd (g 0) 0 1) 1 1) 2 1) 3 1) 4 1) 5 0) 8 0) 9 0) 6 0) 7 0) 10 0) 11 0) 12 1) 13 1) 14 1) 15 0) (upd (upd (upd (upd (upd (upd (upd (upd (upd (upd (upd (upd (upd (upd (upd (upd (g 1) 0 1) 1 1) 2 1) 3 1) 4 1) 5 0) 8 0) 9 0) 6 0) 7 0) 10 0) 11 0) 12 1) 13 1) 14 1) 15 0) (upd (upd (upd (upd (upd (upd (upd (upd (upd (upd (upd (g 2) 9 1) 0 0) 6 0) 7 0) 8 0) 10 0) 1 0) 2 1) 3 1) 4 1) 5 0) (upd (upd (upd (upd (upd (upd (upd (upd (upd (upd (upd (g 3) 9 1) 0 0) 6 0) 7 0) 8 0) 10 0) 1 0) 2 1) 3 1) 4 1) 5 0) (g 4))) H10 := hP10
  have hD12 : va_D A (cW a (kg (upd (upd (upd (upd (upd (upd (upd (upd (upd (upd (upd (upd (upd (upd (upd (upd (g 0) 0 1) 1 1) 2 1) 3 1) 4 1) 5 0) 8 0) 9 0) 6 0) 7 0) 10 0) 11 0) 12 1) 13 1) 14 1) 15 0) (upd (upd (upd (upd (upd (upd (upd (upd (upd (upd (upd (upd (upd (upd (upd (upd (g 1) 0 1) 1 1) 2 1) 3 1) 4 1) 5 0) 8 0) 9 0) 6 0) 7 0) 10 0) 11 0) 12 1) 13 1) 14 1) 15 0) (upd (upd (upd (upd (upd (upd (upd (upd (upd (upd (upd (g 2) 9 1) 0 0) 6 0) 7 0) 8 0) 10 0) 1 0) 2 1) 3 1) 4 1) 5 0) (upd (upd (upd (upd (upd (upd (upd (upd (upd (upd (upd (g 3) 9 1) 0 0) 6 0) 7 0) 8 0) 10 0) 1 0) 2 1) 3 1) 4 1) 5 0) (g 4))) := hD10
  refine lv_aload_n hx hb dX5_reset_28 rfl (lv_at hl 0 rfl) ?_
  refine lv_iconst (v := 0) hx hb dX5_reset_29 (by decide) ?_
  refine va_put (ci := 5) (v := .int 0) (ty := .int) (C := RX5) (T := TX5) (N := 8) hx hb ht inX5 tyX5 tyX5_ok nmX5 hown hK.1 hP11 hD12 hS10 0 rfl rfl 4 (by decide) (ht _ q_216) (fun _ h9 => h9) rfl (by decide +kernel) rfl rfl (Nat.le_of_ble_eq_true rfl) dX5_reset_30 (fun H13 locs13 hP13 hD13 hS13 => ?_)
  have hP14 : va_P G.1 vwCl (cW a (kg (upd (upd (upd (upd (upd (upd (upd (upd (upd (upd (upd (upd (upd (upd (upd (upd (g 0) 0 1) 1 1) 2 1) 3 1) 4 1) 5 0) 8 0) 9 0) 6 0) 7 0) 10 0) 11 0) 12 1) 13 1) 14 1) 15 0) (upd (upd (upd (upd (upd (upd (upd (upd (upd (upd (upd (upd (upd (upd (upd (upd (g 1) 0 1) 1 1) 2 1) 3 1) 4 1) 5 0) 8 0) 9 0) 6 0) 7 0) 10 0) 11 0) 12 1) 13 1) 14 1) 15 0) (upd (upd (upd (upd (upd (upd (upd (upd (upd (upd (upd (g 2) 9 1) 0 0) 6 0) 7 0) 8 0) 10 0) 1 0) 2 1) 3 1) 4 1) 5 0) (upd (upd (upd (upd (upd (upd (upd (upd (upd (upd (upd (g 3) 9 1) 0 0) 6 0) 7 0) 8 0) 10 0) 1 0) 2 1) 3 1) 4 1) 5 0) (upd (g 4) 0 0))) H13 := hP13
  have hD15 : va_D A (cW a (kg (upd (upd (upd (upd (upd (upd (upd (upd (upd (upd (upd (upd (upd (upd (upd (upd (g 0) 0 1) 1 1) 2 1) 3 1) 4 1) 5 0) 8 0) 9 0) 6 0) 7 0) 10 0) 11 0) 12 1) 13 1) 14 1) 15 0) (upd (upd (upd (upd (upd (upd (upd (upd (upd (upd (upd (upd (upd (upd (upd (upd (g 1) 0 1) 1 1) 2 1) 3 1) 4 1) 5 0) 8 0) 9 0) 6 0) 7 0) 10 0) 11 0) 12 1) 13 1) 14 1) 15 0) (upd (upd (upd (upd (upd (upd (upd (upd (upd (upd (upd (g 2) 9 1) 0 0) 6 0) 7 0) 8 0) 10 0) 1 0) 2 1) 3 1) 4 1) 5 0) (upd (upd (upd (upd (upd (upd (upd (upd (upd (upd (upd (g 3) 9 1) 0 0) 6 0) 7 0) 8 0) 10 0) 1 0) 2 1) 3 1) 4 1) 5 0) (upd (g 4) 0 0))) := hD13
  refine lv_aload_n hx hb dX5_reset_33 rfl (lv_at hl 0 rfl) ?_
  refine lv_iconst (v := 0) hx hb dX5_reset_34 (by decide) ?_
  refine va_put (ci := 5) (v := .int 0) (ty := .int) (C := RX5) (T := TX5) (N := 8) hx hb ht inX5 tyX5 tyX5_ok nmX5 hown hK.1 hP14 hD15 hS13 0 rfl rfl 5 (by decide) (ht _ q_218) (fun _ h9 => h9) rfl (by decide +kernel) rfl rfl (Nat.le_of_ble_eq_true rfl) dX5_reset_35 (fun H16 locs16 hP16 hD16 hS16 => ?_)
  have hP17 : va_P G.1 vwCl (cW a (kg (upd (upd (upd (upd (upd (upd (upd (upd (upd (upd (upd (upd (upd (upd (upd (upd (g 0) 0 1) 1 1) 2 1) 3 1) 4 1) 5 0) 8 0) 9 0) 6 0) 7 0) 10 0) 11 0) 12 1) 13 1) 14 1) 15 0) (upd (upd (upd (upd (upd (upd (upd (upd (upd (upd (upd (upd (upd (upd (upd (upd (g 1) 0 1) 1 1) 2 1) 3 1) 4 1) 5 0) 8 0) 9 0) 6 0) 7 0) 10 0) 11 0) 12 1) 13 1) 14 1) 15 0) (upd (upd (upd (upd (upd (upd (upd (upd (upd (upd (upd (g 2) 9 1) 0 0) 6 0) 7 0) 8 0) 10 0) 1 0) 2 1) 3 1) 4 1) 5 0) (upd (upd (upd (upd (upd (upd (upd (upd (upd (upd (upd (g 3) 9 1) 0 0) 6 0) 7 0) 8 0) 10 0) 1 0) 2 1) 3 1) 4 1) 5 0) (upd (upd (g 4) 0 0) 1 0))) H16 := hP16
  have hD18 : va_D A (cW a (kg (upd (upd (upd (upd (upd (upd (upd (upd (upd (upd (upd (upd (upd (upd (upd (upd (g 0) 0 1) 1 1) 2 1) 3 1) 4 1) 5 0) 8 0) 9 0) 6 0) 7 0) 10 0) 11 0) 12 1) 13 1) 14 1) 15 0) (upd (upd (upd (upd (upd (upd (upd (upd (upd (upd (upd (upd (upd (upd (upd (upd (g 1) 0 1) 1 1) 2 1) 3 1) 4 1) 5 0) 8 0) 9 0) 6 0) 7 0) 10 0) 11 0) 12 1) 13 1) 14 1) 15 0) (upd (upd (upd (upd (upd (upd (upd (upd (upd (upd (upd (g 2) 9 1) 0 0) 6 0) 7 0) 8 0) 10 0) 1 0) 2 1) 3 1) 4 1) 5 0) (upd (upd (upd (upd (upd (upd (upd (upd (upd (upd (upd (g 3) 9 1) 0 0) 6 0) 7 0) 8 0) 10 0) 1 0) 2 1) 3 1) 4 1) 5 0) (upd (upd (g 4) 0 0) 1 0))) := hD16
  refine lv_aload_n hx hb dX5_reset_38 rfl (lv_at hl 0 rfl) ?_
  refine lv_iconst (v := 0) hx hb dX5_reset_39 (by decide) ?_
  refine va_put (ci := 5) (v := .int 0) (ty := .int) (C := RX5) (T := TX5) (N := 8) hx hb ht inX5 tyX5 tyX5_ok nmX5 hown hK.1 hP17 hD18 hS16 0 rfl rfl 6 (by decide) (ht _ q_220) (fun _ h9 => h9) rfl (by decide +kernel) rfl rfl (Nat.le_of_ble_eq_true rfl) dX5_reset_40 (fun H19 locs19 hP19 hD19 hS19 => ?_)
  have hP20 : va_P G.1 vwCl (cW a (kg (upd (upd (upd (upd (upd (upd (upd (upd (upd (upd (upd (upd (upd (upd (upd (upd (g 0) 0 1) 1 1) 2 1) 3 1) 4 1) 5 0) 8 0) 9 0) 6 0) 7 0) 10 0) 11 0) 12 1) 13 1) 14 1) 15 0) (upd (upd (upd (upd (upd (upd (upd (upd (upd (upd (upd (upd (upd (upd (upd (upd (g 1) 0 1) 1 1) 2 1) 3 1) 4 1) 5 0) 8 0) 9 0) 6 0) 7 0) 10 0) 11 0) 12 1) 13 1) 14 1) 15 0) (upd (upd (upd (upd (upd (upd (upd (upd (upd (upd (upd (g 2) 9 1) 0 0) 6 0) 7 0) 8 0) 10 0) 1 0) 2 1) 3 1) 4 1) 5 0) (upd (upd (upd (upd (upd (upd (upd (upd (upd (upd (upd (g 3) 9 1) 0 0) 6 0) 7 0) 8 0) 10 0) 1 0) 2 1) 3 1) 4 1) 5 0) (upd (upd (upd (g 4) 0 0) 1 0) 2 0))) H19 := hP19
  have hD21 : va_D A (cW a (kg (upd (upd (upd (upd (upd (upd (upd (upd (upd (upd (upd (upd (upd (upd (upd (upd (g 0) 0 1) 1 1) 2 1) 3 1) 4 1) 5 0) 8 0) 9 0) 6 0) 7 0) 10 0) 11 0) 12 1) 13 1) 14 1) 15 0) (upd (upd (upd (upd (upd (upd (upd (upd (upd (upd (upd (upd (upd (upd (upd (upd (g 1) 0 1) 1 1) 2 1) 3 1) 4 1) 5 0) 8 0) 9 0) 6 0) 7 0) 10 0) 11 0) 12 1) 13 1) 14 1) 15 0) (upd (upd (upd (upd (upd (upd (upd (upd (upd (upd (upd (g 2) 9 1) 0 0) 6 0) 7 0) 8 0) 10 0) 1 0) 2 1) 3 1) 4 1) 5 0) (upd (upd (upd (upd (upd (upd (upd (upd (upd (upd (upd (g 3) 9 1) 0 0) 6 0) 7 0) 8 0) 10 0) 1 0) 2 1) 3 1) 4 1) 5 0) (upd (upd (upd (g 4) 0 0) 1 0) 2 0))) := hD19
  refine lv_aload_n hx hb dX5_reset_43 rfl (lv_at hl 0 rfl) ?_
  refine lv_iconst (v := 0) hx hb dX5_reset_44 (by decide) ?_
  refine va_put (ci := 5) (v := .int 0) (ty := .int) (C := RX5) (T := TX5) (N := 8) hx hb ht inX5 tyX5 tyX5_ok nmX5 hown hK.1 hP20 hD21 hS19 0 rfl rfl 7 (by decide) (ht _ q_222) (fun _ h9 => h9) rfl (by decide +kernel) rfl rfl (Nat.le_of_ble_eq_true rfl) dX5_reset_45 (fun H22 locs22 hP22 hD22 hS22 => ?_)
  have hP23 : va_P G.1 vwCl (cW a (kg (upd (upd (upd (upd (upd (upd (upd (upd (upd (upd (upd (upd (upd (upd (upd (upd (g 0) 0 1) 1 1) 2 1) 3 1) 4 1) 5 0) 8 0) 9 0) 6 0) 7 0) 10 0) 11 0) 12 1) 13 1) 14 1) 15 0) (upd (upd (upd (upd (upd (upd (upd (upd (upd (upd (upd (upd (upd (upd (upd (upd (g 1) 0 1) 1 1) 2 1) 3 1) 4 1) 5 0) 8 0) 9 0) 6 0) 7 0) 10 0) 11 0) 12 1) 13 1) 14 1) 15 0) (upd (upd (upd (upd (upd (upd (upd (upd (upd (upd (upd (g 2) 9 1) 0 0) 6 0) 7 0) 8 0) 10 0) 1 0) 2 1) 3 1) 4 1) 5 0) (upd (upd (upd (upd (upd (upd (upd (upd (upd (upd (upd (g 3) 9 1) 0 0) 6 0) 7 0) 8 0) 10 0) 1 0) 2 1) 3 1) 4 1) 5 0) (upd (upd (upd (upd (g 4) 0 0) 1 0) 2 0) 3 0))) H22 := hP22
  have hD24 : va_D A (cW a (kg (upd (upd (upd (upd (upd (upd (upd (upd (upd (upd (upd (upd (upd (upd (upd (upd (g 0) 0 1) 1 1) 2 1) 3 1) 4 1) 5 0) 8 0) 9 0) 6 0) 7 0) 10 0) 11 0) 12 1) 13 1) 14 1) 15 0) (upd (upd (upd (upd (upd (upd (upd (upd (upd (upd (upd (upd (upd (upd (upd (upd (g 1) 0 1) 1 1) 2 1) 3 1) 4 1) 5 0) 8 0) 9 0) 6 0) 7 0) 10 0) 11 0) 12 1) 13 1) 14 1) 15 0) (upd (upd (upd (upd (upd (upd (upd (upd (upd (upd (upd (g 2) 9 1) 0 0) 6 0) 7 0) 8 0) 10 0) 1 0) 2 1) 3 1) 4 1) 5 0) (upd (upd (upd (upd (upd (upd (upd (upd (upd (upd (upd (g 3) 9 1) 0 0) 6 0) 7 0) 8 0) 10 0) 1 0) 2 1) 3 1) 4 1) 5 0) (upd (upd (upd (upd (g 4) 0 0) 1 0) 2 0) 3 0))) := hD22
  exact k_vret kx hK hP23 hD24 hS22 (u := ()) rfl trivial dX5_reset_48

set_option maxHeartbeats 4000000 in
set_option maxRecDepth 100000 in
theorem c_X5_copyFrom (l : Launch) (G : kG) (g : Nat → Nat → Int32) (o : Nat → Nat → Int32) (a : Nat → Nat) (b : Nat → Nat) (ho : bW o) : cG l G yX5_copyFrom cX5_copyFrom 2 none 2 [.ref (a 0), .ref (b 0)] (cW a g ++ (cW b o)) (qV G (fun _ : Unit => True) (fun _ => cW a o ++ (cW b o))) := by
  refine kintro (by decide) (Nat.le_of_ble_eq_true rfl) ?_
  intro p e s m args below meth c A ls kx hK hP hD hS hA hl
  have kx : kX p s m args meth c cX5_copyFrom 2 none RX5 := kx
  have hx := kx.1
  have hb := kx.2.1
  have hown := kx.2.2.2.2.1
  have ht := kx.2.2.2.2.2.2
  have hl : lv_has ls 2 [(0, .ref (a 0)), (1, .ref (b 0))] := hl
  refine lv_aload_n hx hb dX5_copyFrom_0 rfl (lv_at hl 0 rfl) ?_
  refine va_get (ci := 5) (v := .ref (a 1)) (C := RX5) (T := TX5) (N := 8) hx hb ht inX5 hown hK.1 hP 0 rfl rfl 0 (by decide) (ht _ q_208) (fun _ h9 => h9) rfl dX5_copyFrom_1 ?_
  refine lv_aload_n hx hb dX5_copyFrom_4 rfl (lv_at hl 1 rfl) ?_
  refine va_get (ci := 5) (v := .ref (b 1)) (C := RX5) (T := TX5) (N := 8) hx hb ht inX5 hown hK.1 hP 9 rfl rfl 0 (by decide) (ht _ q_208) (fun _ h9 => h9) rfl dX5_copyFrom_5 ?_
  refine k_callv (kRunV (As := [.ref (b 1)]) (rest := []) kx (c_X0_copyFrom l G (g 0) (o 0) (a 1) (a 2) (b 1) (b 2) ho.1) q_443 q_440 q_32 q_441 q_442 nX0_copyFrom ⟨Nat.le_of_ble_eq_true rfl, Nat.le_of_ble_eq_true rfl⟩ hK hP hD (kCtx_places _ _ [1, 2, 10, 11] rfl rfl) 0 0 rfl rfl rfl rfl hl.1 (Nat.le_of_ble_eq_true rfl) dX5_copyFrom_8 ⟨Nat.zero_le _, Nat.zero_le _⟩) hP hD hS hA (kCtx_places _ _ [1, 2, 10, 11] rfl rfl) (fun _ => rfl) (fun _ H1 locs1 hw hP1 hD1 hS1 => ?_)
  have hP2 : va_P G.1 vwCl (cW a (kg (o 0) (g 1) (g 2) (g 3) (g 4)) ++ (cW b o)) H1 := hP1
  have hD3 : va_D A (cW a (kg (o 0) (g 1) (g 2) (g 3) (g 4)) ++ (cW b o)) := hD1
  refine lv_aload_n hx hb dX5_copyFrom_11 rfl (lv_at hl 0 rfl) ?_
  refine va_get (ci := 5) (v := .ref (a 3)) (C := RX5) (T := TX5) (N := 8) hx hb ht inX5 hown hK.1 hP2 0 rfl rfl 1 (by decide) (ht _ q_210) (fun _ h9 => h9) rfl dX5_copyFrom_12 ?_
  refine lv_aload_n hx hb dX5_copyFrom_15 rfl (lv_at hl 1 rfl) ?_
  refine va_get (ci := 5) (v := .ref (b 3)) (C := RX5) (T := TX5) (N := 8) hx hb ht inX5 hown hK.1 hP2 9 rfl rfl 1 (by decide) (ht _ q_210) (fun _ h9 => h9) rfl dX5_copyFrom_16 ?_
  refine k_callv (kRunV (As := [.ref (b 3)]) (rest := []) kx (c_X0_copyFrom l G (g 1) (o 1) (a 3) (a 4) (b 3) (b 4) ho.2.1) q_443 q_440 q_32 q_441 q_442 nX0_copyFrom ⟨Nat.le_of_ble_eq_true rfl, Nat.le_of_ble_eq_true rfl⟩ hK hP2 hD3 (kCtx_places _ _ [3, 4, 12, 13] rfl rfl) 0 0 rfl rfl rfl rfl hl.1 (Nat.le_of_ble_eq_true rfl) dX5_copyFrom_19 ⟨Nat.zero_le _, Nat.zero_le _⟩) hP2 hD3 hS1 hA (kCtx_places _ _ [3, 4, 12, 13] rfl rfl) (fun _ => rfl) (fun _ H4 locs4 hw hP4 hD4 hS4 => ?_)
  have hP5 : va_P G.1 vwCl (cW a (kg (o 0) (o 1) (g 2) (g 3) (g 4)) ++ (cW b o)) H4 := hP4
  have hD6 : va_D A (cW a (kg (o 0) (o 1) (g 2) (g 3) (g 4)) ++ (cW b o)) := hD4
  refine lv_aload_n hx hb dX5_copyFrom_22 rfl (lv_at hl 0 rfl) ?_
  refine va_get (ci := 5) (v := .ref (a 5)) (C := RX5) (T := TX5) (N := 8) hx hb ht inX5 hown hK.1 hP5 0 rfl rfl 2 (by decide) (ht _ q_212) (fun _ h9 => h9) rfl dX5_copyFrom_23 ?_
  refine lv_aload_n hx hb dX5_copyFrom_26 rfl (lv_at hl 1 rfl) ?_
  refine va_get (ci := 5) (v := .ref (b 5)) (C := RX5) (T := TX5) (N := 8) hx hb ht inX5 hown hK.1 hP5 9 rfl rfl 2 (by decide) (ht _ q_212) (fun _ h9 => h9) rfl dX5_copyFrom_27 ?_
  refine k_callv (kRunV (As := [.ref (b 5)]) (rest := []) kx (c_X4_copyFrom l G (g 2) (o 2) (a 5) (a 6) (b 5) (b 6) ho.2.2.1) q_447 q_444 q_34 q_445 q_446 nX4_copyFrom ⟨Nat.le_of_ble_eq_true rfl, Nat.le_of_ble_eq_true rfl⟩ hK hP5 hD6 (kCtx_places _ _ [5, 6, 14, 15] rfl rfl) 0 4 rfl rfl rfl rfl hl.1 (Nat.le_of_ble_eq_true rfl) dX5_copyFrom_30 ⟨Nat.zero_le _, Nat.zero_le _⟩) hP5 hD6 hS4 hA (kCtx_places _ _ [5, 6, 14, 15] rfl rfl) (fun _ => rfl) (fun _ H7 locs7 hw hP7 hD7 hS7 => ?_)
  have hP8 : va_P G.1 vwCl (cW a (kg (o 0) (o 1) (o 2) (g 3) (g 4)) ++ (cW b o)) H7 := hP7
  have hD9 : va_D A (cW a (kg (o 0) (o 1) (o 2) (g 3) (g 4)) ++ (cW b o)) := hD7
  refine lv_aload_n hx hb dX5_copyFrom_33 rfl (lv_at hl 0 rfl) ?_
  refine va_get (ci := 5) (v := .ref (a 7)) (C := RX5) (T := TX5) (N := 8) hx hb ht inX5 hown hK.1 hP8 0 rfl rfl 3 (by decide) (ht _ q_214) (fun _ h9 => h9) rfl dX5_copyFrom_34 ?_
  refine lv_aload_n hx hb dX5_copyFrom_37 rfl (lv_at hl 1 rfl) ?_
  refine va_get (ci := 5) (v := .ref (b 7)) (C := RX5) (T := TX5) (N := 8) hx hb ht inX5 hown hK.1 hP8 9 rfl rfl 3 (by decide) (ht _ q_214) (fun _ h9 => h9) rfl dX5_copyFrom_38 ?_
  refine k_callv (kRunV (As := [.ref (b 7)]) (rest := []) kx (c_X4_copyFrom l G (g 3) (o 3) (a 7) (a 8) (b 7) (b 8) ho.2.2.2) q_447 q_444 q_34 q_445 q_446 nX4_copyFrom ⟨Nat.le_of_ble_eq_true rfl, Nat.le_of_ble_eq_true rfl⟩ hK hP8 hD9 (kCtx_places _ _ [7, 8, 16, 17] rfl rfl) 0 4 rfl rfl rfl rfl hl.1 (Nat.le_of_ble_eq_true rfl) dX5_copyFrom_41 ⟨Nat.zero_le _, Nat.zero_le _⟩) hP8 hD9 hS7 hA (kCtx_places _ _ [7, 8, 16, 17] rfl rfl) (fun _ => rfl) (fun _ H10 locs10 hw hP10 hD10 hS10 => ?_)
  have hP11 : va_P G.1 vwCl (cW a (kg (o 0) (o 1) (o 2) (o 3) (g 4)) ++ (cW b o)) H10 := hP10
  have hD12 : va_D A (cW a (kg (o 0) (o 1) (o 2) (o 3) (g 4)) ++ (cW b o)) := hD10
  refine lv_aload_n hx hb dX5_copyFrom_44 rfl (lv_at hl 0 rfl) ?_
  refine lv_aload_n hx hb dX5_copyFrom_45 rfl (lv_at hl 1 rfl) ?_
  refine va_get (ci := 5) (v := .int (o 4 0)) (C := RX5) (T := TX5) (N := 8) hx hb ht inX5 hown hK.1 hP11 9 rfl rfl 4 (by decide) (ht _ q_216) (fun _ h9 => h9) rfl dX5_copyFrom_46 ?_
  refine va_put (ci := 5) (v := .int (o 4 0)) (ty := .int) (C := RX5) (T := TX5) (N := 8) hx hb ht inX5 tyX5 tyX5_ok nmX5 hown hK.1 hP11 hD12 hS10 0 rfl rfl 4 (by decide) (ht _ q_216) (fun _ h9 => h9) rfl (by decide +kernel) rfl rfl (Nat.le_of_ble_eq_true rfl) dX5_copyFrom_49 (fun H13 locs13 hP13 hD13 hS13 => ?_)
  have hP14 : va_P G.1 vwCl (cW a (kg (o 0) (o 1) (o 2) (o 3) (upd (g 4) 0 (o 4 0))) ++ (cW b o)) H13 := hP13
  have hD15 : va_D A (cW a (kg (o 0) (o 1) (o 2) (o 3) (upd (g 4) 0 (o 4 0))) ++ (cW b o)) := hD13
  refine lv_aload_n hx hb dX5_copyFrom_52 rfl (lv_at hl 0 rfl) ?_
  refine lv_aload_n hx hb dX5_copyFrom_53 rfl (lv_at hl 1 rfl) ?_
  refine va_get (ci := 5) (v := .int (o 4 1)) (C := RX5) (T := TX5) (N := 8) hx hb ht inX5 hown hK.1 hP14 9 rfl rfl 5 (by decide) (ht _ q_218) (fun _ h9 => h9) rfl dX5_copyFrom_54 ?_
  refine va_put (ci := 5) (v := .int (o 4 1)) (ty := .int) (C := RX5) (T := TX5) (N := 8) hx hb ht inX5 tyX5 tyX5_ok nmX5 hown hK.1 hP14 hD15 hS13 0 rfl rfl 5 (by decide) (ht _ q_218) (fun _ h9 => h9) rfl (by decide +kernel) rfl rfl (Nat.le_of_ble_eq_true rfl) dX5_copyFrom_57 (fun H16 locs16 hP16 hD16 hS16 => ?_)
  have hP17 : va_P G.1 vwCl (cW a (kg (o 0) (o 1) (o 2) (o 3) (upd (upd (g 4) 0 (o 4 0)) 1 (o 4 1))) ++ (cW b o)) H16 := hP16
  have hD18 : va_D A (cW a (kg (o 0) (o 1) (o 2) (o 3) (upd (upd (g 4) 0 (o 4 0)) 1 (o 4 1))) ++ (cW b o)) := hD16
  refine lv_aload_n hx hb dX5_copyFrom_60 rfl (lv_at hl 0 rfl) ?_
  refine lv_aload_n hx hb dX5_copyFrom_61 rfl (lv_at hl 1 rfl) ?_
  refine va_get (ci := 5) (v := .int (o 4 2)) (C := RX5) (T := TX5) (N := 8) hx hb ht inX5 hown hK.1 hP17 9 rfl rfl 6 (by decide) (ht _ q_220) (fun _ h9 => h9) rfl dX5_copyFrom_62 ?_
  refine va_put (ci := 5) (v := .int (o 4 2)) (ty := .int) (C := RX5) (T := TX5) (N := 8) hx hb ht inX5 tyX5 tyX5_ok nmX5 hown hK.1 hP17 hD18 hS16 0 rfl rfl 6 (by decide) (ht _ q_220) (fun _ h9 => h9) rfl (by decide +kernel) rfl rfl (Nat.le_of_ble_eq_true rfl) dX5_copyFrom_65 (fun H19 locs19 hP19 hD19 hS19 => ?_)
  have hP20 : va_P G.1 vwCl (cW a (kg (o 0) (o 1) (o 2) (o 3) (upd (upd (upd (g 4) 0 (o 4 0)) 1 (o 4 1)) 2 (o 4 2))) ++ (cW b o)) H19 := hP19
  have hD21 : va_D A (cW a (kg (o 0) (o 1) (o 2) (o 3) (upd (upd (upd (g 4) 0 (o 4 0)) 1 (o 4 1)) 2 (o 4 2))) ++ (cW b o)) := hD19
  refine lv_aload_n hx hb dX5_copyFrom_68 rfl (lv_at hl 0 rfl) ?_
  refine lv_aload_n hx hb dX5_copyFrom_69 rfl (lv_at hl 1 rfl) ?_
  refine va_get (ci := 5) (v := .int (o 4 3)) (C := RX5) (T := TX5) (N := 8) hx hb ht inX5 hown hK.1 hP20 9 rfl rfl 7 (by decide) (ht _ q_222) (fun _ h9 => h9) rfl dX5_copyFrom_70 ?_
  refine va_put (ci := 5) (v := .int (o 4 3)) (ty := .int) (C := RX5) (T := TX5) (N := 8) hx hb ht inX5 tyX5 tyX5_ok nmX5 hown hK.1 hP20 hD21 hS19 0 rfl rfl 7 (by decide) (ht _ q_222) (fun _ h9 => h9) rfl (by decide +kernel) rfl rfl (Nat.le_of_ble_eq_true rfl) dX5_copyFrom_73 (fun H22 locs22 hP22 hD22 hS22 => ?_)
  have hP23 : va_P G.1 vwCl (cW a (kg (o 0) (o 1) (o 2) (o 3) (upd (upd (upd (upd (g 4) 0 (o 4 0)) 1 (o 4 1)) 2 (o 4 2)) 3 (o 4 3))) ++ (cW b o)) H22 := hP22
  have hD24 : va_D A (cW a (kg (o 0) (o 1) (o 2) (o 3) (upd (upd (upd (upd (g 4) 0 (o 4 0)) 1 (o 4 1)) 2 (o 4 2)) 3 (o 4 3))) ++ (cW b o)) := hD22
  exact k_vret kx hK hP23 hD24 hS22 (u := ()) rfl trivial dX5_copyFrom_76

set_option maxHeartbeats 4000000 in
set_option maxRecDepth 100000 in
theorem c_X5_endOf_0 (l : Launch) (G : kG) (z : Nat → Int32) (h0 : Nat) (r0 : Nat) (r1 : Nat) (r2 : Nat) (r3 : Nat) : cG l G yX5_endOf cX5_endOf 2 (some (.object "StillThere$End")) 0 [.ref h0, .int 0] ([(h0, .inr (5, cD z r0 r1 r2 r3))]) (qR G (fun (r : Nat) (_ : Unit) => r = r0) (fun _ => [(h0, .inr (5, cD z r0 r1 r2 r3))])) := by
  refine kintro (by decide) (Nat.le_of_ble_eq_true rfl) ?_
  intro p e s m args below meth c A ls kx hK hP hD hS hA hl
  have kx : kX p s m args meth c cX5_endOf 2 (some (.object "StillThere$End")) RX5 := kx
  have hx := kx.1
  have hb := kx.2.1
  have hown := kx.2.2.2.2.1
  have ht := kx.2.2.2.2.2.2
  have hl : lv_has ls 2 [(0, .ref h0), (1, .int 0)] := hl
  refine lv_iload_n hx hb dX5_endOf_0 rfl (lv_at hl 1 rfl) ?_
  refine lv_if_ne (x := 0) (tgt := 11) hx hb dX5_endOf_1 (by decide) (fun (c1 : ¬ (0 = 0)) => absurd (by decide) c1) (fun (c1 : 0 = 0) => ?_)
  refine lv_aload_n hx hb dX5_endOf_4 rfl (lv_at hl 0 rfl) ?_
  refine va_get (ci := 5) (v := .ref r0) (C := RX5) (T := TX5) (N := 8) hx hb ht inX5 hown hK.1 hP 0 rfl rfl 0 (by decide) (ht _ q_208) (fun _ h9 => h9) rfl dX5_endOf_5 ?_
  refine lv_goto (tgt := 15) hx hb dX5_endOf_8 (by decide) ?_
  exact k_aret kx hK hP hD hS (u := ()) rfl rfl dX5_endOf_15

set_option maxHeartbeats 4000000 in
set_option maxRecDepth 100000 in
theorem c_X5_endOf_n (l : Launch) (G : kG) (z : Nat → Int32) (h0 : Nat) (r0 : Nat) (r1 : Nat) (r2 : Nat) (r3 : Nat) (p0 : Int32) (h9 : ¬ p0 = 0) : cG l G yX5_endOf cX5_endOf 2 (some (.object "StillThere$End")) 0 [.ref h0, .int p0] ([(h0, .inr (5, cD z r0 r1 r2 r3))]) (qR G (fun (r : Nat) (_ : Unit) => r = r1) (fun _ => [(h0, .inr (5, cD z r0 r1 r2 r3))])) := by
  refine kintro (by decide) (Nat.le_of_ble_eq_true rfl) ?_
  intro p e s m args below meth c A ls kx hK hP hD hS hA hl
  have kx : kX p s m args meth c cX5_endOf 2 (some (.object "StillThere$End")) RX5 := kx
  have hx := kx.1
  have hb := kx.2.1
  have hown := kx.2.2.2.2.1
  have ht := kx.2.2.2.2.2.2
  have hl : lv_has ls 2 [(0, .ref h0), (1, .int p0)] := hl
  refine lv_iload_n hx hb dX5_endOf_0 rfl (lv_at hl 1 rfl) ?_
  refine lv_if_ne (x := p0) (tgt := 11) hx hb dX5_endOf_1 (by decide) (fun (c1 : ¬ (p0 = 0)) => ?_) (fun (c1 : p0 = 0) => absurd c1 h9)
  refine lv_aload_n hx hb dX5_endOf_11 rfl (lv_at hl 0 rfl) ?_
  refine va_get (ci := 5) (v := .ref r1) (C := RX5) (T := TX5) (N := 8) hx hb ht inX5 hown hK.1 hP 0 rfl rfl 1 (by decide) (ht _ q_210) (fun _ h9 => h9) rfl dX5_endOf_12 ?_
  exact k_aret kx hK hP hD hS (u := ()) rfl rfl dX5_endOf_15

set_option maxHeartbeats 4000000 in
set_option maxRecDepth 100000 in
theorem c_X5_wayOf_0 (l : Launch) (G : kG) (z : Nat → Int32) (h0 : Nat) (r0 : Nat) (r1 : Nat) (r2 : Nat) (r3 : Nat) : cG l G yX5_wayOf cX5_wayOf 2 (some (.object "StillThere$Way")) 0 [.ref h0, .int 0] ([(h0, .inr (5, cD z r0 r1 r2 r3))]) (qR G (fun (r : Nat) (_ : Unit) => r = r2) (fun _ => [(h0, .inr (5, cD z r0 r1 r2 r3))])) := by
  refine kintro (by decide) (Nat.le_of_ble_eq_true rfl) ?_
  intro p e s m args below meth c A ls kx hK hP hD hS hA hl
  have kx : kX p s m args meth c cX5_wayOf 2 (some (.object "StillThere$Way")) RX5 := kx
  have hx := kx.1
  have hb := kx.2.1
  have hown := kx.2.2.2.2.1
  have ht := kx.2.2.2.2.2.2
  have hl : lv_has ls 2 [(0, .ref h0), (1, .int 0)] := hl
  refine lv_iload_n hx hb dX5_wayOf_0 rfl (lv_at hl 1 rfl) ?_
  refine lv_if_ne (x := 0) (tgt := 11) hx hb dX5_wayOf_1 (by decide) (fun (c1 : ¬ (0 = 0)) => absurd (by decide) c1) (fun (c1 : 0 = 0) => ?_)
  refine lv_aload_n hx hb dX5_wayOf_4 rfl (lv_at hl 0 rfl) ?_
  refine va_get (ci := 5) (v := .ref r2) (C := RX5) (T := TX5) (N := 8) hx hb ht inX5 hown hK.1 hP 0 rfl rfl 2 (by decide) (ht _ q_212) (fun _ h9 => h9) rfl dX5_wayOf_5 ?_
  refine lv_goto (tgt := 15) hx hb dX5_wayOf_8 (by decide) ?_
  exact k_aret kx hK hP hD hS (u := ()) rfl rfl dX5_wayOf_15

set_option maxHeartbeats 4000000 in
set_option maxRecDepth 100000 in
theorem c_X5_wayOf_n (l : Launch) (G : kG) (z : Nat → Int32) (h0 : Nat) (r0 : Nat) (r1 : Nat) (r2 : Nat) (r3 : Nat) (p0 : Int32) (h9 : ¬ p0 = 0) : cG l G yX5_wayOf cX5_wayOf 2 (some (.object "StillThere$Way")) 0 [.ref h0, .int p0] ([(h0, .inr (5, cD z r0 r1 r2 r3))]) (qR G (fun (r : Nat) (_ : Unit) => r = r3) (fun _ => [(h0, .inr (5, cD z r0 r1 r2 r3))])) := by
  refine kintro (by decide) (Nat.le_of_ble_eq_true rfl) ?_
  intro p e s m args below meth c A ls kx hK hP hD hS hA hl
  have kx : kX p s m args meth c cX5_wayOf 2 (some (.object "StillThere$Way")) RX5 := kx
  have hx := kx.1
  have hb := kx.2.1
  have hown := kx.2.2.2.2.1
  have ht := kx.2.2.2.2.2.2
  have hl : lv_has ls 2 [(0, .ref h0), (1, .int p0)] := hl
  refine lv_iload_n hx hb dX5_wayOf_0 rfl (lv_at hl 1 rfl) ?_
  refine lv_if_ne (x := p0) (tgt := 11) hx hb dX5_wayOf_1 (by decide) (fun (c1 : ¬ (p0 = 0)) => ?_) (fun (c1 : p0 = 0) => absurd c1 h9)
  refine lv_aload_n hx hb dX5_wayOf_11 rfl (lv_at hl 0 rfl) ?_
  refine va_get (ci := 5) (v := .ref r3) (C := RX5) (T := TX5) (N := 8) hx hb ht inX5 hown hK.1 hP 0 rfl rfl 3 (by decide) (ht _ q_214) (fun _ h9 => h9) rfl dX5_wayOf_12 ?_
  exact k_aret kx hK hP hD hS (u := ()) rfl rfl dX5_wayOf_15

set_option maxHeartbeats 4000000 in
set_option maxRecDepth 100000 in
theorem c_X5_wayTo_0 (l : Launch) (G : kG) (z : Nat → Int32) (h0 : Nat) (r0 : Nat) (r1 : Nat) (r2 : Nat) (r3 : Nat) : cG l G yX5_wayTo cX5_wayTo 2 (some (.object "StillThere$Way")) 0 [.ref h0, .int 0] ([(h0, .inr (5, cD z r0 r1 r2 r3))]) (qR G (fun (r : Nat) (_ : Unit) => r = r3) (fun _ => [(h0, .inr (5, cD z r0 r1 r2 r3))])) := by
  refine kintro (by decide) (Nat.le_of_ble_eq_true rfl) ?_
  intro p e s m args below meth c A ls kx hK hP hD hS hA hl
  have kx : kX p s m args meth c cX5_wayTo 2 (some (.object "StillThere$Way")) RX5 := kx
  have hx := kx.1
  have hb := kx.2.1
  have hown := kx.2.2.2.2.1
  have ht := kx.2.2.2.2.2.2
  have hl : lv_has ls 2 [(0, .ref h0), (1, .int 0)] := hl
  refine lv_iload_n hx hb dX5_wayTo_0 rfl (lv_at hl 1 rfl) ?_
  refine lv_if_ne (x := 0) (tgt := 11) hx hb dX5_wayTo_1 (by decide) (fun (c1 : ¬ (0 = 0)) => absurd (by decide) c1) (fun (c1 : 0 = 0) => ?_)
  refine lv_aload_n hx hb dX5_wayTo_4 rfl (lv_at hl 0 rfl) ?_
  refine va_get (ci := 5) (v := .ref r3) (C := RX5) (T := TX5) (N := 8) hx hb ht inX5 hown hK.1 hP 0 rfl rfl 3 (by decide) (ht _ q_214) (fun _ h9 => h9) rfl dX5_wayTo_5 ?_
  refine lv_goto (tgt := 15) hx hb dX5_wayTo_8 (by decide) ?_
  exact k_aret kx hK hP hD hS (u := ()) rfl rfl dX5_wayTo_15

set_option maxHeartbeats 4000000 in
set_option maxRecDepth 100000 in
theorem c_X5_wayTo_n (l : Launch) (G : kG) (z : Nat → Int32) (h0 : Nat) (r0 : Nat) (r1 : Nat) (r2 : Nat) (r3 : Nat) (p0 : Int32) (h9 : ¬ p0 = 0) : cG l G yX5_wayTo cX5_wayTo 2 (some (.object "StillThere$Way")) 0 [.ref h0, .int p0] ([(h0, .inr (5, cD z r0 r1 r2 r3))]) (qR G (fun (r : Nat) (_ : Unit) => r = r2) (fun _ => [(h0, .inr (5, cD z r0 r1 r2 r3))])) := by
  refine kintro (by decide) (Nat.le_of_ble_eq_true rfl) ?_
  intro p e s m args below meth c A ls kx hK hP hD hS hA hl
  have kx : kX p s m args meth c cX5_wayTo 2 (some (.object "StillThere$Way")) RX5 := kx
  have hx := kx.1
  have hb := kx.2.1
  have hown := kx.2.2.2.2.1
  have ht := kx.2.2.2.2.2.2
  have hl : lv_has ls 2 [(0, .ref h0), (1, .int p0)] := hl
  refine lv_iload_n hx hb dX5_wayTo_0 rfl (lv_at hl 1 rfl) ?_
  refine lv_if_ne (x := p0) (tgt := 11) hx hb dX5_wayTo_1 (by decide) (fun (c1 : ¬ (p0 = 0)) => ?_) (fun (c1 : p0 = 0) => absurd c1 h9)
  refine lv_aload_n hx hb dX5_wayTo_11 rfl (lv_at hl 0 rfl) ?_
  refine va_get (ci := 5) (v := .ref r2) (C := RX5) (T := TX5) (N := 8) hx hb ht inX5 hown hK.1 hP 0 rfl rfl 2 (by decide) (ht _ q_212) (fun _ h9 => h9) rfl dX5_wayTo_12 ?_
  exact k_aret kx hK hP hD hS (u := ()) rfl rfl dX5_wayTo_15

def r_X5_areBothUp (X : Nat → Int32) (Y : Nat → Int32) : Int32 := if X 5 = 2 then (if Y 5 = 2 then 1 else 0) else 0
set_option maxHeartbeats 4000000 in
set_option maxRecDepth 100000 in
theorem c_X5_areBothUp (l : Launch) (G : kG) (z : Nat → Int32) (X : Nat → Int32) (Y : Nat → Int32) (h0 : Nat) (h1 : Nat) (h2 : Nat) (h3 : Nat) (h4 : Nat) (r2 : Nat) (r3 : Nat) : cG l G yX5_areBothUp cX5_areBothUp 1 (some .boolean) 0 [.ref h0] ([(h0, .inr (5, cD z h1 h3 r2 r3)), (h1, .inr (0, cE X h2)), (h2, .inr (2, cT11 X)), (h3, .inr (0, cE Y h4)), (h4, .inr (2, cT11 Y))]) (qI G (fun (r : Int32) (_ : Unit) => r = r_X5_areBothUp X Y) (fun _ => [(h0, .inr (5, cD z h1 h3 r2 r3)), (h1, .inr (0, cE X h2)), (h2, .inr (2, cT11 X)), (h3, .inr (0, cE Y h4)), (h4, .inr (2, cT11 Y))])) := by
  refine kintro (by decide) (Nat.le_of_ble_eq_true rfl) ?_
  intro p e s m args below meth c A ls kx hK hP hD hS hA hl
  have kx : kX p s m args meth c cX5_areBothUp 1 (some .boolean) RX5 := kx
  have hx := kx.1
  have hb := kx.2.1
  have hown := kx.2.2.2.2.1
  have ht := kx.2.2.2.2.2.2
  have hl : lv_has ls 1 [(0, .ref h0)] := hl
  refine lv_aload_n hx hb dX5_areBothUp_0 rfl (lv_at hl 0 rfl) ?_
  refine va_get (ci := 5) (v := .ref h1) (C := RX5) (T := TX5) (N := 8) hx hb ht inX5 hown hK.1 hP 0 rfl rfl 0 (by decide) (ht _ q_208) (fun _ h9 => h9) rfl dX5_areBothUp_1 ?_
  refine va_get (ci := 0) (v := .int (X 5)) (C := RX0) (T := TX0) (N := 12) hx hb ht inX0 hown hK.1 hP 1 rfl rfl 5 (by decide) (ht _ q_114) (fun _ h9 => h9) rfl dX5_areBothUp_4 ?_
  refine lv_iconst (v := 2) hx hb dX5_areBothUp_7 (by decide) ?_
  refine lv_icmp_ne (x := X 5) (y := 2) (tgt := 26) hx hb dX5_areBothUp_8 (by decide) (fun (c1 : ¬ (X 5 = 2)) => ?_) (fun (c1 : X 5 = 2) => ?_)
  · skip
    refine lv_iconst (v := 0) hx hb dX5_areBothUp_26 (by decide) ?_
    have er : r_X5_areBothUp X Y = 0 := by rw [r_X5_areBothUp, if_neg c1]
    exact k_zret kx hK hP hD hS (u := ()) rfl er.symm kb0 dX5_areBothUp_27
  · skip
    refine lv_aload_n hx hb dX5_areBothUp_11 rfl (lv_at hl 0 rfl) ?_
    refine va_get (ci := 5) (v := .ref h3) (C := RX5) (T := TX5) (N := 8) hx hb ht inX5 hown hK.1 hP 0 rfl rfl 1 (by decide) (ht _ q_210) (fun _ h9 => h9) rfl dX5_areBothUp_12 ?_
    refine va_get (ci := 0) (v := .int (Y 5)) (C := RX0) (T := TX0) (N := 12) hx hb ht inX0 hown hK.1 hP 3 rfl rfl 5 (by decide) (ht _ q_114) (fun _ h9 => h9) rfl dX5_areBothUp_15 ?_
    refine lv_iconst (v := 2) hx hb dX5_areBothUp_18 (by decide) ?_
    refine lv_icmp_ne (x := Y 5) (y := 2) (tgt := 26) hx hb dX5_areBothUp_19 (by decide) (fun (c2 : ¬ (Y 5 = 2)) => ?_) (fun (c2 : Y 5 = 2) => ?_)
    · skip
      refine lv_iconst (v := 0) hx hb dX5_areBothUp_26 (by decide) ?_
      have er : r_X5_areBothUp X Y = 0 := by rw [r_X5_areBothUp, if_pos c1, if_neg c2]
      exact k_zret kx hK hP hD hS (u := ()) rfl er.symm kb0 dX5_areBothUp_27
    · skip
      refine lv_iconst (v := 1) hx hb dX5_areBothUp_22 (by decide) ?_
      refine lv_goto (tgt := 27) hx hb dX5_areBothUp_23 (by decide) ?_
      have er : r_X5_areBothUp X Y = 1 := by rw [r_X5_areBothUp, if_pos c1, if_pos c2]
      exact k_zret kx hK hP hD hS (u := ()) rfl er.symm kb1 dX5_areBothUp_27
theorem kbr_X5_areBothUp (X : Nat → Int32) (Y : Nat → Int32) : kb (r_X5_areBothUp X Y) := by
  unfold r_X5_areBothUp
  repeat' split
  all_goals first | exact kb0 | exact kb1

def s_X5_sendIfDue_z (z : Nat → Int32) (X : Nat → Int32) : Nat → Int32 := if X 10 = 0 then (if kMax ((X 9) - 1) 0 = 0 then (if (r_X0_isStill (upd X 9 (kMax ((X 9) - 1) 0))) = 0 then (if (z 3) &&& 1 = 0 then (upd (upd z 3 (kUshr (z 3) 1)) 1 ((z 1) + 1)) else upd (upd z 3 (kUshr (z 3) 1)) 1 ((z 1) + 1)) else z) else z) else if (z 3) &&& 1 = 0 then (upd (upd z 3 (kUshr (z 3) 1)) 1 ((z 1) + 1)) else upd (upd z 3 (kUshr (z 3) 1)) 1 ((z 1) + 1)
def s_X5_sendIfDue_X (z : Nat → Int32) (X : Nat → Int32) : Nat → Int32 := if X 10 = 0 then (if kMax ((X 9) - 1) 0 = 0 then (if (r_X0_isStill (upd X 9 (kMax ((X 9) - 1) 0))) = 0 then (if (z 3) &&& 1 = 0 then (upd (upd (upd X 9 (kMax ((X 9) - 1) 0)) 10 0) 9 (r_X0_pace (upd (upd X 9 (kMax ((X 9) - 1) 0)) 10 0))) else upd (upd (upd X 9 (kMax ((X 9) - 1) 0)) 10 0) 9 (r_X0_pace (upd (upd X 9 (kMax ((X 9) - 1) 0)) 10 0))) else upd X 9 (kMax ((X 9) - 1) 0)) else upd X 9 (kMax ((X 9) - 1) 0)) else if (z 3) &&& 1 = 0 then (upd (upd (upd X 9 (kMax ((X 9) - 1) 0)) 10 0) 9 (r_X0_pace (upd (upd X 9 (kMax ((X 9) - 1) 0)) 10 0))) else upd (upd (upd X 9 (kMax ((X 9) - 1) 0)) 10 0) 9 (r_X0_pace (upd (upd X 9 (kMax ((X 9) - 1) 0)) 10 0))
def s_X5_sendIfDue_Y (z : Nat → Int32) (X : Nat → Int32) (Y : Nat → Int32) : Nat → Int32 := if X 10 = 0 then (if kMax ((X 9) - 1) 0 = 0 then (if (r_X0_isStill (upd X 9 (kMax ((X 9) - 1) 0))) = 0 then (if (z 3) &&& 1 = 0 then (upd (upd (upd (upd (upd (upd (upd (upd (upd Y 0 1) 6 (X 6)) 7 (X 10)) 8 0) 1 (X 5)) 2 (X 0)) 3 (X 1)) 4 (X 2)) 5 (X 7)) else upd (upd (upd (upd (upd (upd (upd (upd (upd Y 0 1) 6 (X 6)) 7 (X 10)) 8 1) 1 (X 5)) 2 (X 0)) 3 (X 1)) 4 (X 2)) 5 (X 7)) else Y) else Y) else if (z 3) &&& 1 = 0 then (upd (upd (upd (upd (upd (upd (upd (upd (upd Y 0 1) 6 (X 6)) 7 (X 10)) 8 0) 1 (X 5)) 2 (X 0)) 3 (X 1)) 4 (X 2)) 5 (X 7)) else upd (upd (upd (upd (upd (upd (upd (upd (upd Y 0 1) 6 (X 6)) 7 (X 10)) 8 1) 1 (X 5)) 2 (X 0)) 3 (X 1)) 4 (X 2)) 5 (X 7)
set_option maxHeartbeats 4000000 in
set_option maxRecDepth 100000 in
theorem c_X5_sendIfDue (l : Launch) (G : kG) (z : Nat → Int32) (X : Nat → Int32) (Y : Nat → Int32) (h0 : Nat) (r0 : Nat) (r1 : Nat) (r2 : Nat) (r3 : Nat) (h1 : Nat) (h2 : Nat) (h3 : Nat) (h4 : Nat) (hX : bE X) : cG l G yX5_sendIfDue cX5_sendIfDue 3 none 2 [.ref h0, .ref h1, .ref h3] ([(h0, .inr (5, cD z r0 r1 r2 r3)), (h1, .inr (0, cE X h2)), (h2, .inr (2, cT11 X)), (h3, .inr (4, cY Y h4)), (h4, .inr (2, cT1 Y))]) (qV G (fun u : ((Nat → Int32) × (Nat → Int32) × (Nat → Int32)) => u.1 = s_X5_sendIfDue_z z X ∧ u.2.1 = s_X5_sendIfDue_X z X ∧ u.2.2 = s_X5_sendIfDue_Y z X Y) (fun u => [(h0, .inr (5, cD u.1 r0 r1 r2 r3)), (h1, .inr (0, cE u.2.1 h2)), (h2, .inr (2, cT11 u.2.1)), (h3, .inr (4, cY u.2.2 h4)), (h4, .inr (2, cT1 u.2.2))])) := by
  refine kintro (by decide) (Nat.le_of_ble_eq_true rfl) ?_
  intro p e s m args below meth c A ls kx hK hP hD hS hA hl
  have kx : kX p s m args meth c cX5_sendIfDue 3 none RX5 := kx
  have hx := kx.1
  have hb := kx.2.1
  have hown := kx.2.2.2.2.1
  have ht := kx.2.2.2.2.2.2
  have hl : lv_has ls 3 [(0, .ref h0), (1, .ref h1), (2, .ref h3)] := hl
  refine lv_aload_n hx hb dX5_sendIfDue_0 rfl (lv_at hl 1 rfl) ?_
  refine lv_aload_n hx hb dX5_sendIfDue_1 rfl (lv_at hl 1 rfl) ?_
  refine va_get (ci := 0) (v := .int (X 9)) (C := RX0) (T := TX0) (N := 12) hx hb ht inX0 hown hK.1 hP 1 rfl rfl 7 (by decide) (ht _ q_118) (fun _ h9 => h9) rfl dX5_sendIfDue_2 ?_
  refine lv_iconst (v := 1) hx hb dX5_sendIfDue_5 (by decide) ?_
  refine lv_isub hx hb dX5_sendIfDue_6 ?_
  refine lv_iconst (v := 0) hx hb dX5_sendIfDue_7 (by decide) ?_
  refine va_mmax hx hb (by rw [kx.2.2.1, hl.1]) hown (ht _ q_404) (ht _ q_338) (ht _ q_37) (ht _ q_339) (Nat.le_of_ble_eq_true rfl) (Nat.le_of_ble_eq_true rfl) (Nat.zero_le _) (Nat.zero_le _) dX5_sendIfDue_8 ?_
  refine k_top (y := kMax ((X 9) - 1) 0) rfl ?_
  refine va_put (ci := 0) (v := .int (kMax ((X 9) - 1) 0)) (ty := .int) (C := RX0) (T := TX0) (N := 12) hx hb ht inX0 tyX0 tyX0_ok nmX0 hown hK.1 hP hD hS 1 rfl rfl 7 (by decide) (ht _ q_118) (fun _ h9 => h9) rfl (by decide +kernel) rfl rfl (Nat.le_of_ble_eq_true rfl) dX5_sendIfDue_11 (fun H1 locs1 hP1 hD1 hS1 => ?_)
  have hP2 : va_P G.1 vwCl ([(h0, .inr (5, cD z r0 r1 r2 r3)), (h1, .inr (0, cE (upd X 9 (kMax ((X 9) - 1) 0)) h2)), (h2, .inr (2, cT11 (upd X 9 (kMax ((X 9) - 1) 0)))), (h3, .inr (4, cY Y h4)), (h4, .inr (2, cT1 Y))]) H1 := hP1
  have hD3 : va_D A ([(h0, .inr (5, cD z r0 r1 r2 r3)), (h1, .inr (0, cE (upd X 9 (kMax ((X 9) - 1) 0)) h2)), (h2, .inr (2, cT11 (upd X 9 (kMax ((X 9) - 1) 0)))), (h3, .inr (4, cY Y h4)), (h4, .inr (2, cT1 Y))]) := hD1
  refine lv_aload_n hx hb dX5_sendIfDue_14 rfl (lv_at hl 1 rfl) ?_
  refine va_get (ci := 0) (v := .int (X 10)) (C := RX0) (T := TX0) (N := 12) hx hb ht inX0 hown hK.1 hP2 1 rfl rfl 10 (by decide) (ht _ q_127) (fun _ h9 => h9) rfl dX5_sendIfDue_15 ?_
  refine lv_if_ne (x := X 10) (tgt := 35) hx hb dX5_sendIfDue_18 (by decide) (fun (c1 : ¬ (X 10 = 0)) => ?_) (fun (c1 : X 10 = 0) => ?_)
  · skip
    refine lv_aload_n hx hb dX5_sendIfDue_35 rfl (lv_at hl 2 rfl) ?_
    refine lv_aload_n hx hb dX5_sendIfDue_36 rfl (lv_at hl 1 rfl) ?_
    refine lv_aload_n hx hb dX5_sendIfDue_37 rfl (lv_at hl 0 rfl) ?_
    refine va_get (ci := 5) (v := .int (z 3)) (C := RX5) (T := TX5) (N := 8) hx hb ht inX5 hown hK.1 hP2 0 rfl rfl 7 (by decide) (ht _ q_222) (fun _ h9 => h9) rfl dX5_sendIfDue_38 ?_
    refine lv_iconst (v := 1) hx hb dX5_sendIfDue_41 (by decide) ?_
    refine lv_iand hx hb dX5_sendIfDue_42 ?_
    refine lv_if_eq (x := (z 3) &&& 1) (tgt := 50) hx hb dX5_sendIfDue_43 (by decide) (fun (c2 : (z 3) &&& 1 = 0) => ?_) (fun (c2 : ¬ ((z 3) &&& 1 = 0)) => ?_)
    · skip
      refine lv_iconst (v := 0) hx hb dX5_sendIfDue_50 (by decide) ?_
      refine k_callv (kRunV (As := [.ref h1, .int 0]) (rest := []) kx (c_X4_put l G Y (upd X 9 (kMax ((X 9) - 1) 0)) 0 h3 h4 h1 h2 (⟨hX.1, hX.2.1, hX.2.2.1, hX.2.2.2⟩) kb0) q_412 q_409 q_34 q_410 q_411 nX4_put ⟨Nat.le_of_ble_eq_true rfl, Nat.le_of_ble_eq_true rfl⟩ hK hP2 hD3 (kCtx_places _ _ [3, 4, 1, 2] rfl rfl) 0 4 rfl rfl rfl rfl hl.1 (Nat.le_of_ble_eq_true rfl) dX5_sendIfDue_51 ⟨Nat.zero_le _, Nat.zero_le _⟩) hP2 hD3 hS1 hA (kCtx_places _ _ [3, 4, 1, 2] rfl rfl) (fun _ => rfl) (fun _ H4 locs4 hw hP4 hD4 hS4 => ?_)
      have hP5 : va_P G.1 vwCl ([(h0, .inr (5, cD z r0 r1 r2 r3)), (h1, .inr (0, cE (upd X 9 (kMax ((X 9) - 1) 0)) h2)), (h2, .inr (2, cT11 (upd X 9 (kMax ((X 9) - 1) 0)))), (h3, .inr (4, cY (upd (upd (upd (upd (upd (upd (upd (upd (upd Y 0 1) 6 (X 6)) 7 (X 10)) 8 0) 1 (X 5)) 2 (X 0)) 3 (X 1)) 4 (X 2)) 5 (X 7)) h4)), (h4, .inr (2, cT1 (upd (upd (upd (upd (upd (upd (upd (upd (upd Y 0 1) 6 (X 6)) 7 (X 10)) 8 0) 1 (X 5)) 2 (X 0)) 3 (X 1)) 4 (X 2)) 5 (X 7))))]) H4 := hP4
      have hD6 : va_D A ([(h0, .inr (5, cD z r0 r1 r2 r3)), (h1, .inr (0, cE (upd X 9 (kMax ((X 9) - 1) 0)) h2)), (h2, .inr (2, cT11 (upd X 9 (kMax ((X 9) - 1) 0)))), (h3, .inr (4, cY (upd (upd (upd (upd (upd (upd (upd (upd (upd Y 0 1) 6 (X 6)) 7 (X 10)) 8 0) 1 (X 5)) 2 (X 0)) 3 (X 1)) 4 (X 2)) 5 (X 7)) h4)), (h4, .inr (2, cT1 (upd (upd (upd (upd (upd (upd (upd (upd (upd Y 0 1) 6 (X 6)) 7 (X 10)) 8 0) 1 (X 5)) 2 (X 0)) 3 (X 1)) 4 (X 2)) 5 (X 7))))]) := hD4
      refine lv_aload_n hx hb dX5_sendIfDue_54 rfl (lv_at hl 0 rfl) ?_
      refine lv_dup hx hb dX5_sendIfDue_55 rfl ?_
      refine va_get (ci := 5) (v := .int (z 3)) (C := RX5) (T := TX5) (N := 8) hx hb ht inX5 hown hK.1 hP5 0 rfl rfl 7 (by decide) (ht _ q_222) (fun _ h9 => h9) rfl dX5_sendIfDue_56 ?_
      refine lv_iconst (v := 1) hx hb dX5_sendIfDue_59 (by decide) ?_
      refine lv_iushr (v := kUshr (z 3) 1) hx hb dX5_sendIfDue_60 rfl ?_
      refine va_put (ci := 5) (v := .int (kUshr (z 3) 1)) (ty := .int) (C := RX5) (T := TX5) (N := 8) hx hb ht inX5 tyX5 tyX5_ok nmX5 hown hK.1 hP5 hD6 hS4 0 rfl rfl 7 (by decide) (ht _ q_222) (fun _ h9 => h9) rfl (by decide +kernel) rfl rfl (Nat.le_of_ble_eq_true rfl) dX5_sendIfDue_61 (fun H7 locs7 hP7 hD7 hS7 => ?_)
      have hP8 : va_P G.1 vwCl ([(h0, .inr (5, cD (upd z 3 (kUshr (z 3) 1)) r0 r1 r2 r3)), (h1, .inr (0, cE (upd X 9 (kMax ((X 9) - 1) 0)) h2)), (h2, .inr (2, cT11 (upd X 9 (kMax ((X 9) - 1) 0)))), (h3, .inr (4, cY (upd (upd (upd (upd (upd (upd (upd (upd (upd Y 0 1) 6 (X 6)) 7 (X 10)) 8 0) 1 (X 5)) 2 (X 0)) 3 (X 1)) 4 (X 2)) 5 (X 7)) h4)), (h4, .inr (2, cT1 (upd (upd (upd (upd (upd (upd (upd (upd (upd Y 0 1) 6 (X 6)) 7 (X 10)) 8 0) 1 (X 5)) 2 (X 0)) 3 (X 1)) 4 (X 2)) 5 (X 7))))]) H7 := hP7
      have hD9 : va_D A ([(h0, .inr (5, cD (upd z 3 (kUshr (z 3) 1)) r0 r1 r2 r3)), (h1, .inr (0, cE (upd X 9 (kMax ((X 9) - 1) 0)) h2)), (h2, .inr (2, cT11 (upd X 9 (kMax ((X 9) - 1) 0)))), (h3, .inr (4, cY (upd (upd (upd (upd (upd (upd (upd (upd (upd Y 0 1) 6 (X 6)) 7 (X 10)) 8 0) 1 (X 5)) 2 (X 0)) 3 (X 1)) 4 (X 2)) 5 (X 7)) h4)), (h4, .inr (2, cT1 (upd (upd (upd (upd (upd (upd (upd (upd (upd Y 0 1) 6 (X 6)) 7 (X 10)) 8 0) 1 (X 5)) 2 (X 0)) 3 (X 1)) 4 (X 2)) 5 (X 7))))]) := hD7
      refine lv_aload_n hx hb dX5_sendIfDue_64 rfl (lv_at hl 1 rfl) ?_
      refine lv_iconst (v := 0) hx hb dX5_sendIfDue_65 (by decide) ?_
      refine va_put (ci := 0) (v := .int 0) (ty := .boolean) (C := RX0) (T := TX0) (N := 12) hx hb ht inX0 tyX0 tyX0_ok nmX0 hown hK.1 hP8 hD9 hS7 1 rfl rfl 10 (by decide) (ht _ q_127) (fun _ h9 => h9) rfl (by decide +kernel) (kb_n kb0) (kb_f kb0) (Nat.le_of_ble_eq_true rfl) dX5_sendIfDue_66 (fun H10 locs10 hP10 hD10 hS10 => ?_)
      have hP11 : va_P G.1 vwCl ([(h0, .inr (5, cD (upd z 3 (kUshr (z 3) 1)) r0 r1 r2 r3)), (h1, .inr (0, cE (upd (upd X 9 (kMax ((X 9) - 1) 0)) 10 0) h2)), (h2, .inr (2, cT11 (upd (upd X 9 (kMax ((X 9) - 1) 0)) 10 0))), (h3, .inr (4, cY (upd (upd (upd (upd (upd (upd (upd (upd (upd Y 0 1) 6 (X 6)) 7 (X 10)) 8 0) 1 (X 5)) 2 (X 0)) 3 (X 1)) 4 (X 2)) 5 (X 7)) h4)), (h4, .inr (2, cT1 (upd (upd (upd (upd (upd (upd (upd (upd (upd Y 0 1) 6 (X 6)) 7 (X 10)) 8 0) 1 (X 5)) 2 (X 0)) 3 (X 1)) 4 (X 2)) 5 (X 7))))]) H10 := hP10
      have hD12 : va_D A ([(h0, .inr (5, cD (upd z 3 (kUshr (z 3) 1)) r0 r1 r2 r3)), (h1, .inr (0, cE (upd (upd X 9 (kMax ((X 9) - 1) 0)) 10 0) h2)), (h2, .inr (2, cT11 (upd (upd X 9 (kMax ((X 9) - 1) 0)) 10 0))), (h3, .inr (4, cY (upd (upd (upd (upd (upd (upd (upd (upd (upd Y 0 1) 6 (X 6)) 7 (X 10)) 8 0) 1 (X 5)) 2 (X 0)) 3 (X 1)) 4 (X 2)) 5 (X 7)) h4)), (h4, .inr (2, cT1 (upd (upd (upd (upd (upd (upd (upd (upd (upd Y 0 1) 6 (X 6)) 7 (X 10)) 8 0) 1 (X 5)) 2 (X 0)) 3 (X 1)) 4 (X 2)) 5 (X 7))))]) := hD10
      refine lv_aload_n hx hb dX5_sendIfDue_69 rfl (lv_at hl 1 rfl) ?_
      refine lv_aload_n hx hb dX5_sendIfDue_70 rfl (lv_at hl 1 rfl) ?_
      refine k_calli (kRunV (As := []) (rest := [.ref h1]) kx (c_X0_pace l G (upd (upd X 9 (kMax ((X 9) - 1) 0)) 10 0) h1 h2) q_420 q_417 q_32 q_418 q_419 nX0_pace ⟨Nat.le_of_ble_eq_true rfl, Nat.le_of_ble_eq_true rfl⟩ hK hP11 hD12 (kCtx_places _ _ [1, 2] rfl rfl) 0 0 rfl rfl rfl rfl hl.1 (Nat.le_of_ble_eq_true rfl) dX5_sendIfDue_71 ⟨Nat.zero_le _, Nat.zero_le _⟩) hP11 hD12 hS10 hA (kCtx_places _ _ [1, 2] rfl rfl) (fun _ => rfl) (fun r4 _ H13 locs13 hw hP13 hD13 hS13 => ?_)
      have hr4 : r_X0_pace (upd (upd X 9 (kMax ((X 9) - 1) 0)) 10 0) = r4 := (show r4 = r_X0_pace (upd (upd X 9 (kMax ((X 9) - 1) 0)) 10 0) from hw).symm
      have hP14 : va_P G.1 vwCl ([(h0, .inr (5, cD (upd z 3 (kUshr (z 3) 1)) r0 r1 r2 r3)), (h1, .inr (0, cE (upd (upd X 9 (kMax ((X 9) - 1) 0)) 10 0) h2)), (h2, .inr (2, cT11 (upd (upd X 9 (kMax ((X 9) - 1) 0)) 10 0))), (h3, .inr (4, cY (upd (upd (upd (upd (upd (upd (upd (upd (upd Y 0 1) 6 (X 6)) 7 (X 10)) 8 0) 1 (X 5)) 2 (X 0)) 3 (X 1)) 4 (X 2)) 5 (X 7)) h4)), (h4, .inr (2, cT1 (upd (upd (upd (upd (upd (upd (upd (upd (upd Y 0 1) 6 (X 6)) 7 (X 10)) 8 0) 1 (X 5)) 2 (X 0)) 3 (X 1)) 4 (X 2)) 5 (X 7))))]) H13 := hP13
      have hD15 : va_D A ([(h0, .inr (5, cD (upd z 3 (kUshr (z 3) 1)) r0 r1 r2 r3)), (h1, .inr (0, cE (upd (upd X 9 (kMax ((X 9) - 1) 0)) 10 0) h2)), (h2, .inr (2, cT11 (upd (upd X 9 (kMax ((X 9) - 1) 0)) 10 0))), (h3, .inr (4, cY (upd (upd (upd (upd (upd (upd (upd (upd (upd Y 0 1) 6 (X 6)) 7 (X 10)) 8 0) 1 (X 5)) 2 (X 0)) 3 (X 1)) 4 (X 2)) 5 (X 7)) h4)), (h4, .inr (2, cT1 (upd (upd (upd (upd (upd (upd (upd (upd (upd Y 0 1) 6 (X 6)) 7 (X 10)) 8 0) 1 (X 5)) 2 (X 0)) 3 (X 1)) 4 (X 2)) 5 (X 7))))]) := hD13
      refine va_put (ci := 0) (v := .int r4) (ty := .int) (C := RX0) (T := TX0) (N := 12) hx hb ht inX0 tyX0 tyX0_ok nmX0 hown hK.1 hP14 hD15 hS13 1 rfl rfl 7 (by decide) (ht _ q_118) (fun _ h9 => h9) rfl (by decide +kernel) rfl rfl (Nat.le_of_ble_eq_true rfl) dX5_sendIfDue_74 (fun H16 locs16 hP16 hD16 hS16 => ?_)
      have hP17 : va_P G.1 vwCl ([(h0, .inr (5, cD (upd z 3 (kUshr (z 3) 1)) r0 r1 r2 r3)), (h1, .inr (0, cE (upd (upd (upd X 9 (kMax ((X 9) - 1) 0)) 10 0) 9 r4) h2)), (h2, .inr (2, cT11 (upd (upd (upd X 9 (kMax ((X 9) - 1) 0)) 10 0) 9 r4))), (h3, .inr (4, cY (upd (upd (upd (upd (upd (upd (upd (upd (upd Y 0 1) 6 (X 6)) 7 (X 10)) 8 0) 1 (X 5)) 2 (X 0)) 3 (X 1)) 4 (X 2)) 5 (X 7)) h4)), (h4, .inr (2, cT1 (upd (upd (upd (upd (upd (upd (upd (upd (upd Y 0 1) 6 (X 6)) 7 (X 10)) 8 0) 1 (X 5)) 2 (X 0)) 3 (X 1)) 4 (X 2)) 5 (X 7))))]) H16 := hP16
      have hD18 : va_D A ([(h0, .inr (5, cD (upd z 3 (kUshr (z 3) 1)) r0 r1 r2 r3)), (h1, .inr (0, cE (upd (upd (upd X 9 (kMax ((X 9) - 1) 0)) 10 0) 9 r4) h2)), (h2, .inr (2, cT11 (upd (upd (upd X 9 (kMax ((X 9) - 1) 0)) 10 0) 9 r4))), (h3, .inr (4, cY (upd (upd (upd (upd (upd (upd (upd (upd (upd Y 0 1) 6 (X 6)) 7 (X 10)) 8 0) 1 (X 5)) 2 (X 0)) 3 (X 1)) 4 (X 2)) 5 (X 7)) h4)), (h4, .inr (2, cT1 (upd (upd (upd (upd (upd (upd (upd (upd (upd Y 0 1) 6 (X 6)) 7 (X 10)) 8 0) 1 (X 5)) 2 (X 0)) 3 (X 1)) 4 (X 2)) 5 (X 7))))]) := hD16
      refine lv_aload_n hx hb dX5_sendIfDue_77 rfl (lv_at hl 0 rfl) ?_
      refine lv_dup hx hb dX5_sendIfDue_78 rfl ?_
      refine va_get (ci := 5) (v := .int (z 1)) (C := RX5) (T := TX5) (N := 8) hx hb ht inX5 hown hK.1 hP17 0 rfl rfl 5 (by decide) (ht _ q_218) (fun _ h9 => h9) rfl dX5_sendIfDue_79 ?_
      refine lv_iconst (v := 1) hx hb dX5_sendIfDue_82 (by decide) ?_
      refine lv_iadd hx hb dX5_sendIfDue_83 ?_
      refine va_put (ci := 5) (v := .int ((z 1) + 1)) (ty := .int) (C := RX5) (T := TX5) (N := 8) hx hb ht inX5 tyX5 tyX5_ok nmX5 hown hK.1 hP17 hD18 hS16 0 rfl rfl 5 (by decide) (ht _ q_218) (fun _ h9 => h9) rfl (by decide +kernel) rfl rfl (Nat.le_of_ble_eq_true rfl) dX5_sendIfDue_84 (fun H19 locs19 hP19 hD19 hS19 => ?_)
      have hP20 : va_P G.1 vwCl ([(h0, .inr (5, cD (upd (upd z 3 (kUshr (z 3) 1)) 1 ((z 1) + 1)) r0 r1 r2 r3)), (h1, .inr (0, cE (upd (upd (upd X 9 (kMax ((X 9) - 1) 0)) 10 0) 9 r4) h2)), (h2, .inr (2, cT11 (upd (upd (upd X 9 (kMax ((X 9) - 1) 0)) 10 0) 9 r4))), (h3, .inr (4, cY (upd (upd (upd (upd (upd (upd (upd (upd (upd Y 0 1) 6 (X 6)) 7 (X 10)) 8 0) 1 (X 5)) 2 (X 0)) 3 (X 1)) 4 (X 2)) 5 (X 7)) h4)), (h4, .inr (2, cT1 (upd (upd (upd (upd (upd (upd (upd (upd (upd Y 0 1) 6 (X 6)) 7 (X 10)) 8 0) 1 (X 5)) 2 (X 0)) 3 (X 1)) 4 (X 2)) 5 (X 7))))]) H19 := hP19
      have hD21 : va_D A ([(h0, .inr (5, cD (upd (upd z 3 (kUshr (z 3) 1)) 1 ((z 1) + 1)) r0 r1 r2 r3)), (h1, .inr (0, cE (upd (upd (upd X 9 (kMax ((X 9) - 1) 0)) 10 0) 9 r4) h2)), (h2, .inr (2, cT11 (upd (upd (upd X 9 (kMax ((X 9) - 1) 0)) 10 0) 9 r4))), (h3, .inr (4, cY (upd (upd (upd (upd (upd (upd (upd (upd (upd Y 0 1) 6 (X 6)) 7 (X 10)) 8 0) 1 (X 5)) 2 (X 0)) 3 (X 1)) 4 (X 2)) 5 (X 7)) h4)), (h4, .inr (2, cT1 (upd (upd (upd (upd (upd (upd (upd (upd (upd Y 0 1) 6 (X 6)) 7 (X 10)) 8 0) 1 (X 5)) 2 (X 0)) 3 (X 1)) 4 (X 2)) 5 (X 7))))]) := hD19
      have e0 : s_X5_sendIfDue_z z X = upd (upd z 3 (kUshr (z 3) 1)) 1 ((z 1) + 1) := by rw [s_X5_sendIfDue_z]; (try rw [hr4]); rw [if_neg c1, if_pos c2]
      have e1 : s_X5_sendIfDue_X z X = upd (upd (upd X 9 (kMax ((X 9) - 1) 0)) 10 0) 9 r4 := by rw [s_X5_sendIfDue_X]; (try rw [hr4]); rw [if_neg c1, if_pos c2]
      have e2 : s_X5_sendIfDue_Y z X Y = upd (upd (upd (upd (upd (upd (upd (upd (upd Y 0 1) 6 (X 6)) 7 (X 10)) 8 0) 1 (X 5)) 2 (X 0)) 3 (X 1)) 4 (X 2)) 5 (X 7) := by rw [s_X5_sendIfDue_Y]; (try rw [hr4]); rw [if_neg c1, if_pos c2]
      exact k_vret kx hK hP20 hD21 hS19 (u := (upd (upd z 3 (kUshr (z 3) 1)) 1 ((z 1) + 1), upd (upd (upd X 9 (kMax ((X 9) - 1) 0)) 10 0) 9 r4, upd (upd (upd (upd (upd (upd (upd (upd (upd Y 0 1) 6 (X 6)) 7 (X 10)) 8 0) 1 (X 5)) 2 (X 0)) 3 (X 1)) 4 (X 2)) 5 (X 7))) rfl ⟨e0.symm, e1.symm, e2.symm⟩ dX5_sendIfDue_87
    · skip
      refine lv_iconst (v := 1) hx hb dX5_sendIfDue_46 (by decide) ?_
      refine lv_goto (tgt := 51) hx hb dX5_sendIfDue_47 (by decide) ?_
      refine k_callv (kRunV (As := [.ref h1, .int 1]) (rest := []) kx (c_X4_put l G Y (upd X 9 (kMax ((X 9) - 1) 0)) 1 h3 h4 h1 h2 (⟨hX.1, hX.2.1, hX.2.2.1, hX.2.2.2⟩) kb1) q_412 q_409 q_34 q_410 q_411 nX4_put ⟨Nat.le_of_ble_eq_true rfl, Nat.le_of_ble_eq_true rfl⟩ hK hP2 hD3 (kCtx_places _ _ [3, 4, 1, 2] rfl rfl) 0 4 rfl rfl rfl rfl hl.1 (Nat.le_of_ble_eq_true rfl) dX5_sendIfDue_51 ⟨Nat.zero_le _, Nat.zero_le _⟩) hP2 hD3 hS1 hA (kCtx_places _ _ [3, 4, 1, 2] rfl rfl) (fun _ => rfl) (fun _ H22 locs22 hw hP22 hD22 hS22 => ?_)
      have hP23 : va_P G.1 vwCl ([(h0, .inr (5, cD z r0 r1 r2 r3)), (h1, .inr (0, cE (upd X 9 (kMax ((X 9) - 1) 0)) h2)), (h2, .inr (2, cT11 (upd X 9 (kMax ((X 9) - 1) 0)))), (h3, .inr (4, cY (upd (upd (upd (upd (upd (upd (upd (upd (upd Y 0 1) 6 (X 6)) 7 (X 10)) 8 1) 1 (X 5)) 2 (X 0)) 3 (X 1)) 4 (X 2)) 5 (X 7)) h4)), (h4, .inr (2, cT1 (upd (upd (upd (upd (upd (upd (upd (upd (upd Y 0 1) 6 (X 6)) 7 (X 10)) 8 1) 1 (X 5)) 2 (X 0)) 3 (X 1)) 4 (X 2)) 5 (X 7))))]) H22 := hP22
      have hD24 : va_D A ([(h0, .inr (5, cD z r0 r1 r2 r3)), (h1, .inr (0, cE (upd X 9 (kMax ((X 9) - 1) 0)) h2)), (h2, .inr (2, cT11 (upd X 9 (kMax ((X 9) - 1) 0)))), (h3, .inr (4, cY (upd (upd (upd (upd (upd (upd (upd (upd (upd Y 0 1) 6 (X 6)) 7 (X 10)) 8 1) 1 (X 5)) 2 (X 0)) 3 (X 1)) 4 (X 2)) 5 (X 7)) h4)), (h4, .inr (2, cT1 (upd (upd (upd (upd (upd (upd (upd (upd (upd Y 0 1) 6 (X 6)) 7 (X 10)) 8 1) 1 (X 5)) 2 (X 0)) 3 (X 1)) 4 (X 2)) 5 (X 7))))]) := hD22
      refine lv_aload_n hx hb dX5_sendIfDue_54 rfl (lv_at hl 0 rfl) ?_
      refine lv_dup hx hb dX5_sendIfDue_55 rfl ?_
      refine va_get (ci := 5) (v := .int (z 3)) (C := RX5) (T := TX5) (N := 8) hx hb ht inX5 hown hK.1 hP23 0 rfl rfl 7 (by decide) (ht _ q_222) (fun _ h9 => h9) rfl dX5_sendIfDue_56 ?_
      refine lv_iconst (v := 1) hx hb dX5_sendIfDue_59 (by decide) ?_
      refine lv_iushr (v := kUshr (z 3) 1) hx hb dX5_sendIfDue_60 rfl ?_
      refine va_put (ci := 5) (v := .int (kUshr (z 3) 1)) (ty := .int) (C := RX5) (T := TX5) (N := 8) hx hb ht inX5 tyX5 tyX5_ok nmX5 hown hK.1 hP23 hD24 hS22 0 rfl rfl 7 (by decide) (ht _ q_222) (fun _ h9 => h9) rfl (by decide +kernel) rfl rfl (Nat.le_of_ble_eq_true rfl) dX5_sendIfDue_61 (fun H25 locs25 hP25 hD25 hS25 => ?_)
      have hP26 : va_P G.1 vwCl ([(h0, .inr (5, cD (upd z 3 (kUshr (z 3) 1)) r0 r1 r2 r3)), (h1, .inr (0, cE (upd X 9 (kMax ((X 9) - 1) 0)) h2)), (h2, .inr (2, cT11 (upd X 9 (kMax ((X 9) - 1) 0)))), (h3, .inr (4, cY (upd (upd (upd (upd (upd (upd (upd (upd (upd Y 0 1) 6 (X 6)) 7 (X 10)) 8 1) 1 (X 5)) 2 (X 0)) 3 (X 1)) 4 (X 2)) 5 (X 7)) h4)), (h4, .inr (2, cT1 (upd (upd (upd (upd (upd (upd (upd (upd (upd Y 0 1) 6 (X 6)) 7 (X 10)) 8 1) 1 (X 5)) 2 (X 0)) 3 (X 1)) 4 (X 2)) 5 (X 7))))]) H25 := hP25
      have hD27 : va_D A ([(h0, .inr (5, cD (upd z 3 (kUshr (z 3) 1)) r0 r1 r2 r3)), (h1, .inr (0, cE (upd X 9 (kMax ((X 9) - 1) 0)) h2)), (h2, .inr (2, cT11 (upd X 9 (kMax ((X 9) - 1) 0)))), (h3, .inr (4, cY (upd (upd (upd (upd (upd (upd (upd (upd (upd Y 0 1) 6 (X 6)) 7 (X 10)) 8 1) 1 (X 5)) 2 (X 0)) 3 (X 1)) 4 (X 2)) 5 (X 7)) h4)), (h4, .inr (2, cT1 (upd (upd (upd (upd (upd (upd (upd (upd (upd Y 0 1) 6 (X 6)) 7 (X 10)) 8 1) 1 (X 5)) 2 (X 0)) 3 (X 1)) 4 (X 2)) 5 (X 7))))]) := hD25
      refine lv_aload_n hx hb dX5_sendIfDue_64 rfl (lv_at hl 1 rfl) ?_
      refine lv_iconst (v := 0) hx hb dX5_sendIfDue_65 (by decide) ?_
      refine va_put (ci := 0) (v := .int 0) (ty := .boolean) (C := RX0) (T := TX0) (N := 12) hx hb ht inX0 tyX0 tyX0_ok nmX0 hown hK.1 hP26 hD27 hS25 1 rfl rfl 10 (by decide) (ht _ q_127) (fun _ h9 => h9) rfl (by decide +kernel) (kb_n kb0) (kb_f kb0) (Nat.le_of_ble_eq_true rfl) dX5_sendIfDue_66 (fun H28 locs28 hP28 hD28 hS28 => ?_)
      have hP29 : va_P G.1 vwCl ([(h0, .inr (5, cD (upd z 3 (kUshr (z 3) 1)) r0 r1 r2 r3)), (h1, .inr (0, cE (upd (upd X 9 (kMax ((X 9) - 1) 0)) 10 0) h2)), (h2, .inr (2, cT11 (upd (upd X 9 (kMax ((X 9) - 1) 0)) 10 0))), (h3, .inr (4, cY (upd (upd (upd (upd (upd (upd (upd (upd (upd Y 0 1) 6 (X 6)) 7 (X 10)) 8 1) 1 (X 5)) 2 (X 0)) 3 (X 1)) 4 (X 2)) 5 (X 7)) h4)), (h4, .inr (2, cT1 (upd (upd (upd (upd (upd (upd (upd (upd (upd Y 0 1) 6 (X 6)) 7 (X 10)) 8 1) 1 (X 5)) 2 (X 0)) 3 (X 1)) 4 (X 2)) 5 (X 7))))]) H28 := hP28
      have hD30 : va_D A ([(h0, .inr (5, cD (upd z 3 (kUshr (z 3) 1)) r0 r1 r2 r3)), (h1, .inr (0, cE (upd (upd X 9 (kMax ((X 9) - 1) 0)) 10 0) h2)), (h2, .inr (2, cT11 (upd (upd X 9 (kMax ((X 9) - 1) 0)) 10 0))), (h3, .inr (4, cY (upd (upd (upd (upd (upd (upd (upd (upd (upd Y 0 1) 6 (X 6)) 7 (X 10)) 8 1) 1 (X 5)) 2 (X 0)) 3 (X 1)) 4 (X 2)) 5 (X 7)) h4)), (h4, .inr (2, cT1 (upd (upd (upd (upd (upd (upd (upd (upd (upd Y 0 1) 6 (X 6)) 7 (X 10)) 8 1) 1 (X 5)) 2 (X 0)) 3 (X 1)) 4 (X 2)) 5 (X 7))))]) := hD28
      refine lv_aload_n hx hb dX5_sendIfDue_69 rfl (lv_at hl 1 rfl) ?_
      refine lv_aload_n hx hb dX5_sendIfDue_70 rfl (lv_at hl 1 rfl) ?_
      refine k_calli (kRunV (As := []) (rest := [.ref h1]) kx (c_X0_pace l G (upd (upd X 9 (kMax ((X 9) - 1) 0)) 10 0) h1 h2) q_420 q_417 q_32 q_418 q_419 nX0_pace ⟨Nat.le_of_ble_eq_true rfl, Nat.le_of_ble_eq_true rfl⟩ hK hP29 hD30 (kCtx_places _ _ [1, 2] rfl rfl) 0 0 rfl rfl rfl rfl hl.1 (Nat.le_of_ble_eq_true rfl) dX5_sendIfDue_71 ⟨Nat.zero_le _, Nat.zero_le _⟩) hP29 hD30 hS28 hA (kCtx_places _ _ [1, 2] rfl rfl) (fun _ => rfl) (fun r6 _ H31 locs31 hw hP31 hD31 hS31 => ?_)
      have hr6 : r_X0_pace (upd (upd X 9 (kMax ((X 9) - 1) 0)) 10 0) = r6 := (show r6 = r_X0_pace (upd (upd X 9 (kMax ((X 9) - 1) 0)) 10 0) from hw).symm
      have hP32 : va_P G.1 vwCl ([(h0, .inr (5, cD (upd z 3 (kUshr (z 3) 1)) r0 r1 r2 r3)), (h1, .inr (0, cE (upd (upd X 9 (kMax ((X 9) - 1) 0)) 10 0) h2)), (h2, .inr (2, cT11 (upd (upd X 9 (kMax ((X 9) - 1) 0)) 10 0))), (h3, .inr (4, cY (upd (upd (upd (upd (upd (upd (upd (upd (upd Y 0 1) 6 (X 6)) 7 (X 10)) 8 1) 1 (X 5)) 2 (X 0)) 3 (X 1)) 4 (X 2)) 5 (X 7)) h4)), (h4, .inr (2, cT1 (upd (upd (upd (upd (upd (upd (upd (upd (upd Y 0 1) 6 (X 6)) 7 (X 10)) 8 1) 1 (X 5)) 2 (X 0)) 3 (X 1)) 4 (X 2)) 5 (X 7))))]) H31 := hP31
      have hD33 : va_D A ([(h0, .inr (5, cD (upd z 3 (kUshr (z 3) 1)) r0 r1 r2 r3)), (h1, .inr (0, cE (upd (upd X 9 (kMax ((X 9) - 1) 0)) 10 0) h2)), (h2, .inr (2, cT11 (upd (upd X 9 (kMax ((X 9) - 1) 0)) 10 0))), (h3, .inr (4, cY (upd (upd (upd (upd (upd (upd (upd (upd (upd Y 0 1) 6 (X 6)) 7 (X 10)) 8 1) 1 (X 5)) 2 (X 0)) 3 (X 1)) 4 (X 2)) 5 (X 7)) h4)), (h4, .inr (2, cT1 (upd (upd (upd (upd (upd (upd (upd (upd (upd Y 0 1) 6 (X 6)) 7 (X 10)) 8 1) 1 (X 5)) 2 (X 0)) 3 (X 1)) 4 (X 2)) 5 (X 7))))]) := hD31
      refine va_put (ci := 0) (v := .int r6) (ty := .int) (C := RX0) (T := TX0) (N := 12) hx hb ht inX0 tyX0 tyX0_ok nmX0 hown hK.1 hP32 hD33 hS31 1 rfl rfl 7 (by decide) (ht _ q_118) (fun _ h9 => h9) rfl (by decide +kernel) rfl rfl (Nat.le_of_ble_eq_true rfl) dX5_sendIfDue_74 (fun H34 locs34 hP34 hD34 hS34 => ?_)
      have hP35 : va_P G.1 vwCl ([(h0, .inr (5, cD (upd z 3 (kUshr (z 3) 1)) r0 r1 r2 r3)), (h1, .inr (0, cE (upd (upd (upd X 9 (kMax ((X 9) - 1) 0)) 10 0) 9 r6) h2)), (h2, .inr (2, cT11 (upd (upd (upd X 9 (kMax ((X 9) - 1) 0)) 10 0) 9 r6))), (h3, .inr (4, cY (upd (upd (upd (upd (upd (upd (upd (upd (upd Y 0 1) 6 (X 6)) 7 (X 10)) 8 1) 1 (X 5)) 2 (X 0)) 3 (X 1)) 4 (X 2)) 5 (X 7)) h4)), (h4, .inr (2, cT1 (upd (upd (upd (upd (upd (upd (upd (upd (upd Y 0 1) 6 (X 6)) 7 (X 10)) 8 1) 1 (X 5)) 2 (X 0)) 3 (X 1)) 4 (X 2)) 5 (X 7))))]) H34 := hP34
      have hD36 : va_D A ([(h0, .inr (5, cD (upd z 3 (kUshr (z 3) 1)) r0 r1 r2 r3)), (h1, .inr (0, cE (upd (upd (upd X 9 (kMax ((X 9) - 1) 0)) 10 0) 9 r6) h2)), (h2, .inr (2, cT11 (upd (upd (upd X 9 (kMax ((X 9) - 1) 0)) 10 0) 9 r6))), (h3, .inr (4, cY (upd (upd (upd (upd (upd (upd (upd (upd (upd Y 0 1) 6 (X 6)) 7 (X 10)) 8 1) 1 (X 5)) 2 (X 0)) 3 (X 1)) 4 (X 2)) 5 (X 7)) h4)), (h4, .inr (2, cT1 (upd (upd (upd (upd (upd (upd (upd (upd (upd Y 0 1) 6 (X 6)) 7 (X 10)) 8 1) 1 (X 5)) 2 (X 0)) 3 (X 1)) 4 (X 2)) 5 (X 7))))]) := hD34
      refine lv_aload_n hx hb dX5_sendIfDue_77 rfl (lv_at hl 0 rfl) ?_
      refine lv_dup hx hb dX5_sendIfDue_78 rfl ?_
      refine va_get (ci := 5) (v := .int (z 1)) (C := RX5) (T := TX5) (N := 8) hx hb ht inX5 hown hK.1 hP35 0 rfl rfl 5 (by decide) (ht _ q_218) (fun _ h9 => h9) rfl dX5_sendIfDue_79 ?_
      refine lv_iconst (v := 1) hx hb dX5_sendIfDue_82 (by decide) ?_
      refine lv_iadd hx hb dX5_sendIfDue_83 ?_
      refine va_put (ci := 5) (v := .int ((z 1) + 1)) (ty := .int) (C := RX5) (T := TX5) (N := 8) hx hb ht inX5 tyX5 tyX5_ok nmX5 hown hK.1 hP35 hD36 hS34 0 rfl rfl 5 (by decide) (ht _ q_218) (fun _ h9 => h9) rfl (by decide +kernel) rfl rfl (Nat.le_of_ble_eq_true rfl) dX5_sendIfDue_84 (fun H37 locs37 hP37 hD37 hS37 => ?_)
      have hP38 : va_P G.1 vwCl ([(h0, .inr (5, cD (upd (upd z 3 (kUshr (z 3) 1)) 1 ((z 1) + 1)) r0 r1 r2 r3)), (h1, .inr (0, cE (upd (upd (upd X 9 (kMax ((X 9) - 1) 0)) 10 0) 9 r6) h2)), (h2, .inr (2, cT11 (upd (upd (upd X 9 (kMax ((X 9) - 1) 0)) 10 0) 9 r6))), (h3, .inr (4, cY (upd (upd (upd (upd (upd (upd (upd (upd (upd Y 0 1) 6 (X 6)) 7 (X 10)) 8 1) 1 (X 5)) 2 (X 0)) 3 (X 1)) 4 (X 2)) 5 (X 7)) h4)), (h4, .inr (2, cT1 (upd (upd (upd (upd (upd (upd (upd (upd (upd Y 0 1) 6 (X 6)) 7 (X 10)) 8 1) 1 (X 5)) 2 (X 0)) 3 (X 1)) 4 (X 2)) 5 (X 7))))]) H37 := hP37
      have hD39 : va_D A ([(h0, .inr (5, cD (upd (upd z 3 (kUshr (z 3) 1)) 1 ((z 1) + 1)) r0 r1 r2 r3)), (h1, .inr (0, cE (upd (upd (upd X 9 (kMax ((X 9) - 1) 0)) 10 0) 9 r6) h2)), (h2, .inr (2, cT11 (upd (upd (upd X 9 (kMax ((X 9) - 1) 0)) 10 0) 9 r6))), (h3, .inr (4, cY (upd (upd (upd (upd (upd (upd (upd (upd (upd Y 0 1) 6 (X 6)) 7 (X 10)) 8 1) 1 (X 5)) 2 (X 0)) 3 (X 1)) 4 (X 2)) 5 (X 7)) h4)), (h4, .inr (2, cT1 (upd (upd (upd (upd (upd (upd (upd (upd (upd Y 0 1) 6 (X 6)) 7 (X 10)) 8 1) 1 (X 5)) 2 (X 0)) 3 (X 1)) 4 (X 2)) 5 (X 7))))]) := hD37
      have e0 : s_X5_sendIfDue_z z X = upd (upd z 3 (kUshr (z 3) 1)) 1 ((z 1) + 1) := by rw [s_X5_sendIfDue_z]; (try rw [hr6]); rw [if_neg c1, if_neg c2]
      have e1 : s_X5_sendIfDue_X z X = upd (upd (upd X 9 (kMax ((X 9) - 1) 0)) 10 0) 9 r6 := by rw [s_X5_sendIfDue_X]; (try rw [hr6]); rw [if_neg c1, if_neg c2]
      have e2 : s_X5_sendIfDue_Y z X Y = upd (upd (upd (upd (upd (upd (upd (upd (upd Y 0 1) 6 (X 6)) 7 (X 10)) 8 1) 1 (X 5)) 2 (X 0)) 3 (X 1)) 4 (X 2)) 5 (X 7) := by rw [s_X5_sendIfDue_Y]; (try rw [hr6]); rw [if_neg c1, if_neg c2]
      exact k_vret kx hK hP38 hD39 hS37 (u := (upd (upd z 3 (kUshr (z 3) 1)) 1 ((z 1) + 1), upd (upd (upd X 9 (kMax ((X 9) - 1) 0)) 10 0) 9 r6, upd (upd (upd (upd (upd (upd (upd (upd (upd Y 0 1) 6 (X 6)) 7 (X 10)) 8 1) 1 (X 5)) 2 (X 0)) 3 (X 1)) 4 (X 2)) 5 (X 7))) rfl ⟨e0.symm, e1.symm, e2.symm⟩ dX5_sendIfDue_87
  · skip
    refine lv_aload_n hx hb dX5_sendIfDue_21 rfl (lv_at hl 1 rfl) ?_
    refine va_get (ci := 0) (v := .int (kMax ((X 9) - 1) 0)) (C := RX0) (T := TX0) (N := 12) hx hb ht inX0 hown hK.1 hP2 1 rfl rfl 7 (by decide) (ht _ q_118) (fun _ h9 => h9) rfl dX5_sendIfDue_22 ?_
    refine lv_if_ne (x := kMax ((X 9) - 1) 0) (tgt := 87) hx hb dX5_sendIfDue_25 (by decide) (fun (c7 : ¬ (kMax ((X 9) - 1) 0 = 0)) => ?_) (fun (c7 : kMax ((X 9) - 1) 0 = 0) => ?_)
    · skip
      have e0 : s_X5_sendIfDue_z z X = z := by rw [s_X5_sendIfDue_z, if_pos c1, if_neg c7]
      have e1 : s_X5_sendIfDue_X z X = upd X 9 (kMax ((X 9) - 1) 0) := by rw [s_X5_sendIfDue_X, if_pos c1, if_neg c7]
      have e2 : s_X5_sendIfDue_Y z X Y = Y := by rw [s_X5_sendIfDue_Y, if_pos c1, if_neg c7]
      exact k_vret kx hK hP2 hD3 hS1 (u := (z, upd X 9 (kMax ((X 9) - 1) 0), Y)) rfl ⟨e0.symm, e1.symm, e2.symm⟩ dX5_sendIfDue_87
    · skip
      refine lv_aload_n hx hb dX5_sendIfDue_28 rfl (lv_at hl 1 rfl) ?_
      refine k_calli (kRunV (As := []) (rest := []) kx (c_X0_isStill l G (upd X 9 (kMax ((X 9) - 1) 0)) h1 h2) q_408 q_405 q_32 q_406 q_407 nX0_isStill ⟨Nat.le_of_ble_eq_true rfl, Nat.le_of_ble_eq_true rfl⟩ hK hP2 hD3 (kCtx_places _ _ [1, 2] rfl rfl) 0 0 rfl rfl rfl rfl hl.1 (Nat.le_of_ble_eq_true rfl) dX5_sendIfDue_29 ⟨Nat.zero_le _, Nat.zero_le _⟩) hP2 hD3 hS1 hA (kCtx_places _ _ [1, 2] rfl rfl) (fun _ => rfl) (fun r8 _ H40 locs40 hw hP40 hD40 hS40 => ?_)
      have hr8 : r_X0_isStill (upd X 9 (kMax ((X 9) - 1) 0)) = r8 := (show r8 = r_X0_isStill (upd X 9 (kMax ((X 9) - 1) 0)) from hw).symm
      have hP41 : va_P G.1 vwCl ([(h0, .inr (5, cD z r0 r1 r2 r3)), (h1, .inr (0, cE (upd X 9 (kMax ((X 9) - 1) 0)) h2)), (h2, .inr (2, cT11 (upd X 9 (kMax ((X 9) - 1) 0)))), (h3, .inr (4, cY Y h4)), (h4, .inr (2, cT1 Y))]) H40 := hP40
      have hD42 : va_D A ([(h0, .inr (5, cD z r0 r1 r2 r3)), (h1, .inr (0, cE (upd X 9 (kMax ((X 9) - 1) 0)) h2)), (h2, .inr (2, cT11 (upd X 9 (kMax ((X 9) - 1) 0)))), (h3, .inr (4, cY Y h4)), (h4, .inr (2, cT1 Y))]) := hD40
      refine lv_if_ne (x := r8) (tgt := 87) hx hb dX5_sendIfDue_32 (by decide) (fun (c9 : ¬ (r8 = 0)) => ?_) (fun (c9 : r8 = 0) => ?_)
      · skip
        have e0 : s_X5_sendIfDue_z z X = z := by rw [s_X5_sendIfDue_z]; (try rw [hr8]); rw [if_pos c1, if_pos c7, if_neg c9]
        have e1 : s_X5_sendIfDue_X z X = upd X 9 (kMax ((X 9) - 1) 0) := by rw [s_X5_sendIfDue_X]; (try rw [hr8]); rw [if_pos c1, if_pos c7, if_neg c9]
        have e2 : s_X5_sendIfDue_Y z X Y = Y := by rw [s_X5_sendIfDue_Y]; (try rw [hr8]); rw [if_pos c1, if_pos c7, if_neg c9]
        exact k_vret kx hK hP41 hD42 hS40 (u := (z, upd X 9 (kMax ((X 9) - 1) 0), Y)) rfl ⟨e0.symm, e1.symm, e2.symm⟩ dX5_sendIfDue_87
      · skip
        refine lv_aload_n hx hb dX5_sendIfDue_35 rfl (lv_at hl 2 rfl) ?_
        refine lv_aload_n hx hb dX5_sendIfDue_36 rfl (lv_at hl 1 rfl) ?_
        refine lv_aload_n hx hb dX5_sendIfDue_37 rfl (lv_at hl 0 rfl) ?_
        refine va_get (ci := 5) (v := .int (z 3)) (C := RX5) (T := TX5) (N := 8) hx hb ht inX5 hown hK.1 hP41 0 rfl rfl 7 (by decide) (ht _ q_222) (fun _ h9 => h9) rfl dX5_sendIfDue_38 ?_
        refine lv_iconst (v := 1) hx hb dX5_sendIfDue_41 (by decide) ?_
        refine lv_iand hx hb dX5_sendIfDue_42 ?_
        refine lv_if_eq (x := (z 3) &&& 1) (tgt := 50) hx hb dX5_sendIfDue_43 (by decide) (fun (c10 : (z 3) &&& 1 = 0) => ?_) (fun (c10 : ¬ ((z 3) &&& 1 = 0)) => ?_)
        · skip
          refine lv_iconst (v := 0) hx hb dX5_sendIfDue_50 (by decide) ?_
          refine k_callv (kRunV (As := [.ref h1, .int 0]) (rest := []) kx (c_X4_put l G Y (upd X 9 (kMax ((X 9) - 1) 0)) 0 h3 h4 h1 h2 (⟨hX.1, hX.2.1, hX.2.2.1, hX.2.2.2⟩) kb0) q_412 q_409 q_34 q_410 q_411 nX4_put ⟨Nat.le_of_ble_eq_true rfl, Nat.le_of_ble_eq_true rfl⟩ hK hP41 hD42 (kCtx_places _ _ [3, 4, 1, 2] rfl rfl) 0 4 rfl rfl rfl rfl hl.1 (Nat.le_of_ble_eq_true rfl) dX5_sendIfDue_51 ⟨Nat.zero_le _, Nat.zero_le _⟩) hP41 hD42 hS40 hA (kCtx_places _ _ [3, 4, 1, 2] rfl rfl) (fun _ => rfl) (fun _ H43 locs43 hw hP43 hD43 hS43 => ?_)
          have hP44 : va_P G.1 vwCl ([(h0, .inr (5, cD z r0 r1 r2 r3)), (h1, .inr (0, cE (upd X 9 (kMax ((X 9) - 1) 0)) h2)), (h2, .inr (2, cT11 (upd X 9 (kMax ((X 9) - 1) 0)))), (h3, .inr (4, cY (upd (upd (upd (upd (upd (upd (upd (upd (upd Y 0 1) 6 (X 6)) 7 (X 10)) 8 0) 1 (X 5)) 2 (X 0)) 3 (X 1)) 4 (X 2)) 5 (X 7)) h4)), (h4, .inr (2, cT1 (upd (upd (upd (upd (upd (upd (upd (upd (upd Y 0 1) 6 (X 6)) 7 (X 10)) 8 0) 1 (X 5)) 2 (X 0)) 3 (X 1)) 4 (X 2)) 5 (X 7))))]) H43 := hP43
          have hD45 : va_D A ([(h0, .inr (5, cD z r0 r1 r2 r3)), (h1, .inr (0, cE (upd X 9 (kMax ((X 9) - 1) 0)) h2)), (h2, .inr (2, cT11 (upd X 9 (kMax ((X 9) - 1) 0)))), (h3, .inr (4, cY (upd (upd (upd (upd (upd (upd (upd (upd (upd Y 0 1) 6 (X 6)) 7 (X 10)) 8 0) 1 (X 5)) 2 (X 0)) 3 (X 1)) 4 (X 2)) 5 (X 7)) h4)), (h4, .inr (2, cT1 (upd (upd (upd (upd (upd (upd (upd (upd (upd Y 0 1) 6 (X 6)) 7 (X 10)) 8 0) 1 (X 5)) 2 (X 0)) 3 (X 1)) 4 (X 2)) 5 (X 7))))]) := hD43
          refine lv_aload_n hx hb dX5_sendIfDue_54 rfl (lv_at hl 0 rfl) ?_
          refine lv_dup hx hb dX5_sendIfDue_55 rfl ?_
          refine va_get (ci := 5) (v := .int (z 3)) (C := RX5) (T := TX5) (N := 8) hx hb ht inX5 hown hK.1 hP44 0 rfl rfl 7 (by decide) (ht _ q_222) (fun _ h9 => h9) rfl dX5_sendIfDue_56 ?_
          refine lv_iconst (v := 1) hx hb dX5_sendIfDue_59 (by decide) ?_
          refine lv_iushr (v := kUshr (z 3) 1) hx hb dX5_sendIfDue_60 rfl ?_
          refine va_put (ci := 5) (v := .int (kUshr (z 3) 1)) (ty := .int) (C := RX5) (T := TX5) (N := 8) hx hb ht inX5 tyX5 tyX5_ok nmX5 hown hK.1 hP44 hD45 hS43 0 rfl rfl 7 (by decide) (ht _ q_222) (fun _ h9 => h9) rfl (by decide +kernel) rfl rfl (Nat.le_of_ble_eq_true rfl) dX5_sendIfDue_61 (fun H46 locs46 hP46 hD46 hS46 => ?_)
          have hP47 : va_P G.1 vwCl ([(h0, .inr (5, cD (upd z 3 (kUshr (z 3) 1)) r0 r1 r2 r3)), (h1, .inr (0, cE (upd X 9 (kMax ((X 9) - 1) 0)) h2)), (h2, .inr (2, cT11 (upd X 9 (kMax ((X 9) - 1) 0)))), (h3, .inr (4, cY (upd (upd (upd (upd (upd (upd (upd (upd (upd Y 0 1) 6 (X 6)) 7 (X 10)) 8 0) 1 (X 5)) 2 (X 0)) 3 (X 1)) 4 (X 2)) 5 (X 7)) h4)), (h4, .inr (2, cT1 (upd (upd (upd (upd (upd (upd (upd (upd (upd Y 0 1) 6 (X 6)) 7 (X 10)) 8 0) 1 (X 5)) 2 (X 0)) 3 (X 1)) 4 (X 2)) 5 (X 7))))]) H46 := hP46
          have hD48 : va_D A ([(h0, .inr (5, cD (upd z 3 (kUshr (z 3) 1)) r0 r1 r2 r3)), (h1, .inr (0, cE (upd X 9 (kMax ((X 9) - 1) 0)) h2)), (h2, .inr (2, cT11 (upd X 9 (kMax ((X 9) - 1) 0)))), (h3, .inr (4, cY (upd (upd (upd (upd (upd (upd (upd (upd (upd Y 0 1) 6 (X 6)) 7 (X 10)) 8 0) 1 (X 5)) 2 (X 0)) 3 (X 1)) 4 (X 2)) 5 (X 7)) h4)), (h4, .inr (2, cT1 (upd (upd (upd (upd (upd (upd (upd (upd (upd Y 0 1) 6 (X 6)) 7 (X 10)) 8 0) 1 (X 5)) 2 (X 0)) 3 (X 1)) 4 (X 2)) 5 (X 7))))]) := hD46
          refine lv_aload_n hx hb dX5_sendIfDue_64 rfl (lv_at hl 1 rfl) ?_
          refine lv_iconst (v := 0) hx hb dX5_sendIfDue_65 (by decide) ?_
          refine va_put (ci := 0) (v := .int 0) (ty := .boolean) (C := RX0) (T := TX0) (N := 12) hx hb ht inX0 tyX0 tyX0_ok nmX0 hown hK.1 hP47 hD48 hS46 1 rfl rfl 10 (by decide) (ht _ q_127) (fun _ h9 => h9) rfl (by decide +kernel) (kb_n kb0) (kb_f kb0) (Nat.le_of_ble_eq_true rfl) dX5_sendIfDue_66 (fun H49 locs49 hP49 hD49 hS49 => ?_)
          have hP50 : va_P G.1 vwCl ([(h0, .inr (5, cD (upd z 3 (kUshr (z 3) 1)) r0 r1 r2 r3)), (h1, .inr (0, cE (upd (upd X 9 (kMax ((X 9) - 1) 0)) 10 0) h2)), (h2, .inr (2, cT11 (upd (upd X 9 (kMax ((X 9) - 1) 0)) 10 0))), (h3, .inr (4, cY (upd (upd (upd (upd (upd (upd (upd (upd (upd Y 0 1) 6 (X 6)) 7 (X 10)) 8 0) 1 (X 5)) 2 (X 0)) 3 (X 1)) 4 (X 2)) 5 (X 7)) h4)), (h4, .inr (2, cT1 (upd (upd (upd (upd (upd (upd (upd (upd (upd Y 0 1) 6 (X 6)) 7 (X 10)) 8 0) 1 (X 5)) 2 (X 0)) 3 (X 1)) 4 (X 2)) 5 (X 7))))]) H49 := hP49
          have hD51 : va_D A ([(h0, .inr (5, cD (upd z 3 (kUshr (z 3) 1)) r0 r1 r2 r3)), (h1, .inr (0, cE (upd (upd X 9 (kMax ((X 9) - 1) 0)) 10 0) h2)), (h2, .inr (2, cT11 (upd (upd X 9 (kMax ((X 9) - 1) 0)) 10 0))), (h3, .inr (4, cY (upd (upd (upd (upd (upd (upd (upd (upd (upd Y 0 1) 6 (X 6)) 7 (X 10)) 8 0) 1 (X 5)) 2 (X 0)) 3 (X 1)) 4 (X 2)) 5 (X 7)) h4)), (h4, .inr (2, cT1 (upd (upd (upd (upd (upd (upd (upd (upd (upd Y 0 1) 6 (X 6)) 7 (X 10)) 8 0) 1 (X 5)) 2 (X 0)) 3 (X 1)) 4 (X 2)) 5 (X 7))))]) := hD49
          refine lv_aload_n hx hb dX5_sendIfDue_69 rfl (lv_at hl 1 rfl) ?_
          refine lv_aload_n hx hb dX5_sendIfDue_70 rfl (lv_at hl 1 rfl) ?_
          refine k_calli (kRunV (As := []) (rest := [.ref h1]) kx (c_X0_pace l G (upd (upd X 9 (kMax ((X 9) - 1) 0)) 10 0) h1 h2) q_420 q_417 q_32 q_418 q_419 nX0_pace ⟨Nat.le_of_ble_eq_true rfl, Nat.le_of_ble_eq_true rfl⟩ hK hP50 hD51 (kCtx_places _ _ [1, 2] rfl rfl) 0 0 rfl rfl rfl rfl hl.1 (Nat.le_of_ble_eq_true rfl) dX5_sendIfDue_71 ⟨Nat.zero_le _, Nat.zero_le _⟩) hP50 hD51 hS49 hA (kCtx_places _ _ [1, 2] rfl rfl) (fun _ => rfl) (fun r12 _ H52 locs52 hw hP52 hD52 hS52 => ?_)
          have hr12 : r_X0_pace (upd (upd X 9 (kMax ((X 9) - 1) 0)) 10 0) = r12 := (show r12 = r_X0_pace (upd (upd X 9 (kMax ((X 9) - 1) 0)) 10 0) from hw).symm
          have hP53 : va_P G.1 vwCl ([(h0, .inr (5, cD (upd z 3 (kUshr (z 3) 1)) r0 r1 r2 r3)), (h1, .inr (0, cE (upd (upd X 9 (kMax ((X 9) - 1) 0)) 10 0) h2)), (h2, .inr (2, cT11 (upd (upd X 9 (kMax ((X 9) - 1) 0)) 10 0))), (h3, .inr (4, cY (upd (upd (upd (upd (upd (upd (upd (upd (upd Y 0 1) 6 (X 6)) 7 (X 10)) 8 0) 1 (X 5)) 2 (X 0)) 3 (X 1)) 4 (X 2)) 5 (X 7)) h4)), (h4, .inr (2, cT1 (upd (upd (upd (upd (upd (upd (upd (upd (upd Y 0 1) 6 (X 6)) 7 (X 10)) 8 0) 1 (X 5)) 2 (X 0)) 3 (X 1)) 4 (X 2)) 5 (X 7))))]) H52 := hP52
          have hD54 : va_D A ([(h0, .inr (5, cD (upd z 3 (kUshr (z 3) 1)) r0 r1 r2 r3)), (h1, .inr (0, cE (upd (upd X 9 (kMax ((X 9) - 1) 0)) 10 0) h2)), (h2, .inr (2, cT11 (upd (upd X 9 (kMax ((X 9) - 1) 0)) 10 0))), (h3, .inr (4, cY (upd (upd (upd (upd (upd (upd (upd (upd (upd Y 0 1) 6 (X 6)) 7 (X 10)) 8 0) 1 (X 5)) 2 (X 0)) 3 (X 1)) 4 (X 2)) 5 (X 7)) h4)), (h4, .inr (2, cT1 (upd (upd (upd (upd (upd (upd (upd (upd (upd Y 0 1) 6 (X 6)) 7 (X 10)) 8 0) 1 (X 5)) 2 (X 0)) 3 (X 1)) 4 (X 2)) 5 (X 7))))]) := hD52
          refine va_put (ci := 0) (v := .int r12) (ty := .int) (C := RX0) (T := TX0) (N := 12) hx hb ht inX0 tyX0 tyX0_ok nmX0 hown hK.1 hP53 hD54 hS52 1 rfl rfl 7 (by decide) (ht _ q_118) (fun _ h9 => h9) rfl (by decide +kernel) rfl rfl (Nat.le_of_ble_eq_true rfl) dX5_sendIfDue_74 (fun H55 locs55 hP55 hD55 hS55 => ?_)
          have hP56 : va_P G.1 vwCl ([(h0, .inr (5, cD (upd z 3 (kUshr (z 3) 1)) r0 r1 r2 r3)), (h1, .inr (0, cE (upd (upd (upd X 9 (kMax ((X 9) - 1) 0)) 10 0) 9 r12) h2)), (h2, .inr (2, cT11 (upd (upd (upd X 9 (kMax ((X 9) - 1) 0)) 10 0) 9 r12))), (h3, .inr (4, cY (upd (upd (upd (upd (upd (upd (upd (upd (upd Y 0 1) 6 (X 6)) 7 (X 10)) 8 0) 1 (X 5)) 2 (X 0)) 3 (X 1)) 4 (X 2)) 5 (X 7)) h4)), (h4, .inr (2, cT1 (upd (upd (upd (upd (upd (upd (upd (upd (upd Y 0 1) 6 (X 6)) 7 (X 10)) 8 0) 1 (X 5)) 2 (X 0)) 3 (X 1)) 4 (X 2)) 5 (X 7))))]) H55 := hP55
          have hD57 : va_D A ([(h0, .inr (5, cD (upd z 3 (kUshr (z 3) 1)) r0 r1 r2 r3)), (h1, .inr (0, cE (upd (upd (upd X 9 (kMax ((X 9) - 1) 0)) 10 0) 9 r12) h2)), (h2, .inr (2, cT11 (upd (upd (upd X 9 (kMax ((X 9) - 1) 0)) 10 0) 9 r12))), (h3, .inr (4, cY (upd (upd (upd (upd (upd (upd (upd (upd (upd Y 0 1) 6 (X 6)) 7 (X 10)) 8 0) 1 (X 5)) 2 (X 0)) 3 (X 1)) 4 (X 2)) 5 (X 7)) h4)), (h4, .inr (2, cT1 (upd (upd (upd (upd (upd (upd (upd (upd (upd Y 0 1) 6 (X 6)) 7 (X 10)) 8 0) 1 (X 5)) 2 (X 0)) 3 (X 1)) 4 (X 2)) 5 (X 7))))]) := hD55
          refine lv_aload_n hx hb dX5_sendIfDue_77 rfl (lv_at hl 0 rfl) ?_
          refine lv_dup hx hb dX5_sendIfDue_78 rfl ?_
          refine va_get (ci := 5) (v := .int (z 1)) (C := RX5) (T := TX5) (N := 8) hx hb ht inX5 hown hK.1 hP56 0 rfl rfl 5 (by decide) (ht _ q_218) (fun _ h9 => h9) rfl dX5_sendIfDue_79 ?_
          refine lv_iconst (v := 1) hx hb dX5_sendIfDue_82 (by decide) ?_
          refine lv_iadd hx hb dX5_sendIfDue_83 ?_
          refine va_put (ci := 5) (v := .int ((z 1) + 1)) (ty := .int) (C := RX5) (T := TX5) (N := 8) hx hb ht inX5 tyX5 tyX5_ok nmX5 hown hK.1 hP56 hD57 hS55 0 rfl rfl 5 (by decide) (ht _ q_218) (fun _ h9 => h9) rfl (by decide +kernel) rfl rfl (Nat.le_of_ble_eq_true rfl) dX5_sendIfDue_84 (fun H58 locs58 hP58 hD58 hS58 => ?_)
          have hP59 : va_P G.1 vwCl ([(h0, .inr (5, cD (upd (upd z 3 (kUshr (z 3) 1)) 1 ((z 1) + 1)) r0 r1 r2 r3)), (h1, .inr (0, cE (upd (upd (upd X 9 (kMax ((X 9) - 1) 0)) 10 0) 9 r12) h2)), (h2, .inr (2, cT11 (upd (upd (upd X 9 (kMax ((X 9) - 1) 0)) 10 0) 9 r12))), (h3, .inr (4, cY (upd (upd (upd (upd (upd (upd (upd (upd (upd Y 0 1) 6 (X 6)) 7 (X 10)) 8 0) 1 (X 5)) 2 (X 0)) 3 (X 1)) 4 (X 2)) 5 (X 7)) h4)), (h4, .inr (2, cT1 (upd (upd (upd (upd (upd (upd (upd (upd (upd Y 0 1) 6 (X 6)) 7 (X 10)) 8 0) 1 (X 5)) 2 (X 0)) 3 (X 1)) 4 (X 2)) 5 (X 7))))]) H58 := hP58
          have hD60 : va_D A ([(h0, .inr (5, cD (upd (upd z 3 (kUshr (z 3) 1)) 1 ((z 1) + 1)) r0 r1 r2 r3)), (h1, .inr (0, cE (upd (upd (upd X 9 (kMax ((X 9) - 1) 0)) 10 0) 9 r12) h2)), (h2, .inr (2, cT11 (upd (upd (upd X 9 (kMax ((X 9) - 1) 0)) 10 0) 9 r12))), (h3, .inr (4, cY (upd (upd (upd (upd (upd (upd (upd (upd (upd Y 0 1) 6 (X 6)) 7 (X 10)) 8 0) 1 (X 5)) 2 (X 0)) 3 (X 1)) 4 (X 2)) 5 (X 7)) h4)), (h4, .inr (2, cT1 (upd (upd (upd (upd (upd (upd (upd (upd (upd Y 0 1) 6 (X 6)) 7 (X 10)) 8 0) 1 (X 5)) 2 (X 0)) 3 (X 1)) 4 (X 2)) 5 (X 7))))]) := hD58
          have e0 : s_X5_sendIfDue_z z X = upd (upd z 3 (kUshr (z 3) 1)) 1 ((z 1) + 1) := by rw [s_X5_sendIfDue_z]; (try rw [hr8]); (try rw [hr12]); rw [if_pos c1, if_pos c7, if_pos c9, if_pos c10]
          have e1 : s_X5_sendIfDue_X z X = upd (upd (upd X 9 (kMax ((X 9) - 1) 0)) 10 0) 9 r12 := by rw [s_X5_sendIfDue_X]; (try rw [hr8]); (try rw [hr12]); rw [if_pos c1, if_pos c7, if_pos c9, if_pos c10]
          have e2 : s_X5_sendIfDue_Y z X Y = upd (upd (upd (upd (upd (upd (upd (upd (upd Y 0 1) 6 (X 6)) 7 (X 10)) 8 0) 1 (X 5)) 2 (X 0)) 3 (X 1)) 4 (X 2)) 5 (X 7) := by rw [s_X5_sendIfDue_Y]; (try rw [hr8]); (try rw [hr12]); rw [if_pos c1, if_pos c7, if_pos c9, if_pos c10]
          exact k_vret kx hK hP59 hD60 hS58 (u := (upd (upd z 3 (kUshr (z 3) 1)) 1 ((z 1) + 1), upd (upd (upd X 9 (kMax ((X 9) - 1) 0)) 10 0) 9 r12, upd (upd (upd (upd (upd (upd (upd (upd (upd Y 0 1) 6 (X 6)) 7 (X 10)) 8 0) 1 (X 5)) 2 (X 0)) 3 (X 1)) 4 (X 2)) 5 (X 7))) rfl ⟨e0.symm, e1.symm, e2.symm⟩ dX5_sendIfDue_87
        · skip
          refine lv_iconst (v := 1) hx hb dX5_sendIfDue_46 (by decide) ?_
          refine lv_goto (tgt := 51) hx hb dX5_sendIfDue_47 (by decide) ?_
          refine k_callv (kRunV (As := [.ref h1, .int 1]) (rest := []) kx (c_X4_put l G Y (upd X 9 (kMax ((X 9) - 1) 0)) 1 h3 h4 h1 h2 (⟨hX.1, hX.2.1, hX.2.2.1, hX.2.2.2⟩) kb1) q_412 q_409 q_34 q_410 q_411 nX4_put ⟨Nat.le_of_ble_eq_true rfl, Nat.le_of_ble_eq_true rfl⟩ hK hP41 hD42 (kCtx_places _ _ [3, 4, 1, 2] rfl rfl) 0 4 rfl rfl rfl rfl hl.1 (Nat.le_of_ble_eq_true rfl) dX5_sendIfDue_51 ⟨Nat.zero_le _, Nat.zero_le _⟩) hP41 hD42 hS40 hA (kCtx_places _ _ [3, 4, 1, 2] rfl rfl) (fun _ => rfl) (fun _ H61 locs61 hw hP61 hD61 hS61 => ?_)
          have hP62 : va_P G.1 vwCl ([(h0, .inr (5, cD z r0 r1 r2 r3)), (h1, .inr (0, cE (upd X 9 (kMax ((X 9) - 1) 0)) h2)), (h2, .inr (2, cT11 (upd X 9 (kMax ((X 9) - 1) 0)))), (h3, .inr (4, cY (upd (upd (upd (upd (upd (upd (upd (upd (upd Y 0 1) 6 (X 6)) 7 (X 10)) 8 1) 1 (X 5)) 2 (X 0)) 3 (X 1)) 4 (X 2)) 5 (X 7)) h4)), (h4, .inr (2, cT1 (upd (upd (upd (upd (upd (upd (upd (upd (upd Y 0 1) 6 (X 6)) 7 (X 10)) 8 1) 1 (X 5)) 2 (X 0)) 3 (X 1)) 4 (X 2)) 5 (X 7))))]) H61 := hP61
          have hD63 : va_D A ([(h0, .inr (5, cD z r0 r1 r2 r3)), (h1, .inr (0, cE (upd X 9 (kMax ((X 9) - 1) 0)) h2)), (h2, .inr (2, cT11 (upd X 9 (kMax ((X 9) - 1) 0)))), (h3, .inr (4, cY (upd (upd (upd (upd (upd (upd (upd (upd (upd Y 0 1) 6 (X 6)) 7 (X 10)) 8 1) 1 (X 5)) 2 (X 0)) 3 (X 1)) 4 (X 2)) 5 (X 7)) h4)), (h4, .inr (2, cT1 (upd (upd (upd (upd (upd (upd (upd (upd (upd Y 0 1) 6 (X 6)) 7 (X 10)) 8 1) 1 (X 5)) 2 (X 0)) 3 (X 1)) 4 (X 2)) 5 (X 7))))]) := hD61
          refine lv_aload_n hx hb dX5_sendIfDue_54 rfl (lv_at hl 0 rfl) ?_
          refine lv_dup hx hb dX5_sendIfDue_55 rfl ?_
          refine va_get (ci := 5) (v := .int (z 3)) (C := RX5) (T := TX5) (N := 8) hx hb ht inX5 hown hK.1 hP62 0 rfl rfl 7 (by decide) (ht _ q_222) (fun _ h9 => h9) rfl dX5_sendIfDue_56 ?_
          refine lv_iconst (v := 1) hx hb dX5_sendIfDue_59 (by decide) ?_
          refine lv_iushr (v := kUshr (z 3) 1) hx hb dX5_sendIfDue_60 rfl ?_
          refine va_put (ci := 5) (v := .int (kUshr (z 3) 1)) (ty := .int) (C := RX5) (T := TX5) (N := 8) hx hb ht inX5 tyX5 tyX5_ok nmX5 hown hK.1 hP62 hD63 hS61 0 rfl rfl 7 (by decide) (ht _ q_222) (fun _ h9 => h9) rfl (by decide +kernel) rfl rfl (Nat.le_of_ble_eq_true rfl) dX5_sendIfDue_61 (fun H64 locs64 hP64 hD64 hS64 => ?_)
          have hP65 : va_P G.1 vwCl ([(h0, .inr (5, cD (upd z 3 (kUshr (z 3) 1)) r0 r1 r2 r3)), (h1, .inr (0, cE (upd X 9 (kMax ((X 9) - 1) 0)) h2)), (h2, .inr (2, cT11 (upd X 9 (kMax ((X 9) - 1) 0)))), (h3, .inr (4, cY (upd (upd (upd (upd (upd (upd (upd (upd (upd Y 0 1) 6 (X 6)) 7 (X 10)) 8 1) 1 (X 5)) 2 (X 0)) 3 (X 1)) 4 (X 2)) 5 (X 7)) h4)), (h4, .inr (2, cT1 (upd (upd (upd (upd (upd (upd (upd (upd (upd Y 0 1) 6 (X 6)) 7 (X 10)) 8 1) 1 (X 5)) 2 (X 0)) 3 (X 1)) 4 (X 2)) 5 (X 7))))]) H64 := hP64
          have hD66 : va_D A ([(h0, .inr (5, cD (upd z 3 (kUshr (z 3) 1)) r0 r1 r2 r3)), (h1, .inr (0, cE (upd X 9 (kMax ((X 9) - 1) 0)) h2)), (h2, .inr (2, cT11 (upd X 9 (kMax ((X 9) - 1) 0)))), (h3, .inr (4, cY (upd (upd (upd (upd (upd (upd (upd (upd (upd Y 0 1) 6 (X 6)) 7 (X 10)) 8 1) 1 (X 5)) 2 (X 0)) 3 (X 1)) 4 (X 2)) 5 (X 7)) h4)), (h4, .inr (2, cT1 (upd (upd (upd (upd (upd (upd (upd (upd (upd Y 0 1) 6 (X 6)) 7 (X 10)) 8 1) 1 (X 5)) 2 (X 0)) 3 (X 1)) 4 (X 2)) 5 (X 7))))]) := hD64
          refine lv_aload_n hx hb dX5_sendIfDue_64 rfl (lv_at hl 1 rfl) ?_
          refine lv_iconst (v := 0) hx hb dX5_sendIfDue_65 (by decide) ?_
          refine va_put (ci := 0) (v := .int 0) (ty := .boolean) (C := RX0) (T := TX0) (N := 12) hx hb ht inX0 tyX0 tyX0_ok nmX0 hown hK.1 hP65 hD66 hS64 1 rfl rfl 10 (by decide) (ht _ q_127) (fun _ h9 => h9) rfl (by decide +kernel) (kb_n kb0) (kb_f kb0) (Nat.le_of_ble_eq_true rfl) dX5_sendIfDue_66 (fun H67 locs67 hP67 hD67 hS67 => ?_)
          have hP68 : va_P G.1 vwCl ([(h0, .inr (5, cD (upd z 3 (kUshr (z 3) 1)) r0 r1 r2 r3)), (h1, .inr (0, cE (upd (upd X 9 (kMax ((X 9) - 1) 0)) 10 0) h2)), (h2, .inr (2, cT11 (upd (upd X 9 (kMax ((X 9) - 1) 0)) 10 0))), (h3, .inr (4, cY (upd (upd (upd (upd (upd (upd (upd (upd (upd Y 0 1) 6 (X 6)) 7 (X 10)) 8 1) 1 (X 5)) 2 (X 0)) 3 (X 1)) 4 (X 2)) 5 (X 7)) h4)), (h4, .inr (2, cT1 (upd (upd (upd (upd (upd (upd (upd (upd (upd Y 0 1) 6 (X 6)) 7 (X 10)) 8 1) 1 (X 5)) 2 (X 0)) 3 (X 1)) 4 (X 2)) 5 (X 7))))]) H67 := hP67
          have hD69 : va_D A ([(h0, .inr (5, cD (upd z 3 (kUshr (z 3) 1)) r0 r1 r2 r3)), (h1, .inr (0, cE (upd (upd X 9 (kMax ((X 9) - 1) 0)) 10 0) h2)), (h2, .inr (2, cT11 (upd (upd X 9 (kMax ((X 9) - 1) 0)) 10 0))), (h3, .inr (4, cY (upd (upd (upd (upd (upd (upd (upd (upd (upd Y 0 1) 6 (X 6)) 7 (X 10)) 8 1) 1 (X 5)) 2 (X 0)) 3 (X 1)) 4 (X 2)) 5 (X 7)) h4)), (h4, .inr (2, cT1 (upd (upd (upd (upd (upd (upd (upd (upd (upd Y 0 1) 6 (X 6)) 7 (X 10)) 8 1) 1 (X 5)) 2 (X 0)) 3 (X 1)) 4 (X 2)) 5 (X 7))))]) := hD67
          refine lv_aload_n hx hb dX5_sendIfDue_69 rfl (lv_at hl 1 rfl) ?_
          refine lv_aload_n hx hb dX5_sendIfDue_70 rfl (lv_at hl 1 rfl) ?_
          refine k_calli (kRunV (As := []) (rest := [.ref h1]) kx (c_X0_pace l G (upd (upd X 9 (kMax ((X 9) - 1) 0)) 10 0) h1 h2) q_420 q_417 q_32 q_418 q_419 nX0_pace ⟨Nat.le_of_ble_eq_true rfl, Nat.le_of_ble_eq_true rfl⟩ hK hP68 hD69 (kCtx_places _ _ [1, 2] rfl rfl) 0 0 rfl rfl rfl rfl hl.1 (Nat.le_of_ble_eq_true rfl) dX5_sendIfDue_71 ⟨Nat.zero_le _, Nat.zero_le _⟩) hP68 hD69 hS67 hA (kCtx_places _ _ [1, 2] rfl rfl) (fun _ => rfl) (fun r14 _ H70 locs70 hw hP70 hD70 hS70 => ?_)
          have hr14 : r_X0_pace (upd (upd X 9 (kMax ((X 9) - 1) 0)) 10 0) = r14 := (show r14 = r_X0_pace (upd (upd X 9 (kMax ((X 9) - 1) 0)) 10 0) from hw).symm
          have hP71 : va_P G.1 vwCl ([(h0, .inr (5, cD (upd z 3 (kUshr (z 3) 1)) r0 r1 r2 r3)), (h1, .inr (0, cE (upd (upd X 9 (kMax ((X 9) - 1) 0)) 10 0) h2)), (h2, .inr (2, cT11 (upd (upd X 9 (kMax ((X 9) - 1) 0)) 10 0))), (h3, .inr (4, cY (upd (upd (upd (upd (upd (upd (upd (upd (upd Y 0 1) 6 (X 6)) 7 (X 10)) 8 1) 1 (X 5)) 2 (X 0)) 3 (X 1)) 4 (X 2)) 5 (X 7)) h4)), (h4, .inr (2, cT1 (upd (upd (upd (upd (upd (upd (upd (upd (upd Y 0 1) 6 (X 6)) 7 (X 10)) 8 1) 1 (X 5)) 2 (X 0)) 3 (X 1)) 4 (X 2)) 5 (X 7))))]) H70 := hP70
          have hD72 : va_D A ([(h0, .inr (5, cD (upd z 3 (kUshr (z 3) 1)) r0 r1 r2 r3)), (h1, .inr (0, cE (upd (upd X 9 (kMax ((X 9) - 1) 0)) 10 0) h2)), (h2, .inr (2, cT11 (upd (upd X 9 (kMax ((X 9) - 1) 0)) 10 0))), (h3, .inr (4, cY (upd (upd (upd (upd (upd (upd (upd (upd (upd Y 0 1) 6 (X 6)) 7 (X 10)) 8 1) 1 (X 5)) 2 (X 0)) 3 (X 1)) 4 (X 2)) 5 (X 7)) h4)), (h4, .inr (2, cT1 (upd (upd (upd (upd (upd (upd (upd (upd (upd Y 0 1) 6 (X 6)) 7 (X 10)) 8 1) 1 (X 5)) 2 (X 0)) 3 (X 1)) 4 (X 2)) 5 (X 7))))]) := hD70
          refine va_put (ci := 0) (v := .int r14) (ty := .int) (C := RX0) (T := TX0) (N := 12) hx hb ht inX0 tyX0 tyX0_ok nmX0 hown hK.1 hP71 hD72 hS70 1 rfl rfl 7 (by decide) (ht _ q_118) (fun _ h9 => h9) rfl (by decide +kernel) rfl rfl (Nat.le_of_ble_eq_true rfl) dX5_sendIfDue_74 (fun H73 locs73 hP73 hD73 hS73 => ?_)
          have hP74 : va_P G.1 vwCl ([(h0, .inr (5, cD (upd z 3 (kUshr (z 3) 1)) r0 r1 r2 r3)), (h1, .inr (0, cE (upd (upd (upd X 9 (kMax ((X 9) - 1) 0)) 10 0) 9 r14) h2)), (h2, .inr (2, cT11 (upd (upd (upd X 9 (kMax ((X 9) - 1) 0)) 10 0) 9 r14))), (h3, .inr (4, cY (upd (upd (upd (upd (upd (upd (upd (upd (upd Y 0 1) 6 (X 6)) 7 (X 10)) 8 1) 1 (X 5)) 2 (X 0)) 3 (X 1)) 4 (X 2)) 5 (X 7)) h4)), (h4, .inr (2, cT1 (upd (upd (upd (upd (upd (upd (upd (upd (upd Y 0 1) 6 (X 6)) 7 (X 10)) 8 1) 1 (X 5)) 2 (X 0)) 3 (X 1)) 4 (X 2)) 5 (X 7))))]) H73 := hP73
          have hD75 : va_D A ([(h0, .inr (5, cD (upd z 3 (kUshr (z 3) 1)) r0 r1 r2 r3)), (h1, .inr (0, cE (upd (upd (upd X 9 (kMax ((X 9) - 1) 0)) 10 0) 9 r14) h2)), (h2, .inr (2, cT11 (upd (upd (upd X 9 (kMax ((X 9) - 1) 0)) 10 0) 9 r14))), (h3, .inr (4, cY (upd (upd (upd (upd (upd (upd (upd (upd (upd Y 0 1) 6 (X 6)) 7 (X 10)) 8 1) 1 (X 5)) 2 (X 0)) 3 (X 1)) 4 (X 2)) 5 (X 7)) h4)), (h4, .inr (2, cT1 (upd (upd (upd (upd (upd (upd (upd (upd (upd Y 0 1) 6 (X 6)) 7 (X 10)) 8 1) 1 (X 5)) 2 (X 0)) 3 (X 1)) 4 (X 2)) 5 (X 7))))]) := hD73
          refine lv_aload_n hx hb dX5_sendIfDue_77 rfl (lv_at hl 0 rfl) ?_
          refine lv_dup hx hb dX5_sendIfDue_78 rfl ?_
          refine va_get (ci := 5) (v := .int (z 1)) (C := RX5) (T := TX5) (N := 8) hx hb ht inX5 hown hK.1 hP74 0 rfl rfl 5 (by decide) (ht _ q_218) (fun _ h9 => h9) rfl dX5_sendIfDue_79 ?_
          refine lv_iconst (v := 1) hx hb dX5_sendIfDue_82 (by decide) ?_
          refine lv_iadd hx hb dX5_sendIfDue_83 ?_
          refine va_put (ci := 5) (v := .int ((z 1) + 1)) (ty := .int) (C := RX5) (T := TX5) (N := 8) hx hb ht inX5 tyX5 tyX5_ok nmX5 hown hK.1 hP74 hD75 hS73 0 rfl rfl 5 (by decide) (ht _ q_218) (fun _ h9 => h9) rfl (by decide +kernel) rfl rfl (Nat.le_of_ble_eq_true rfl) dX5_sendIfDue_84 (fun H76 locs76 hP76 hD76 hS76 => ?_)
          have hP77 : va_P G.1 vwCl ([(h0, .inr (5, cD (upd (upd z 3 (kUshr (z 3) 1)) 1 ((z 1) + 1)) r0 r1 r2 r3)), (h1, .inr (0, cE (upd (upd (upd X 9 (kMax ((X 9) - 1) 0)) 10 0) 9 r14) h2)), (h2, .inr (2, cT11 (upd (upd (upd X 9 (kMax ((X 9) - 1) 0)) 10 0) 9 r14))), (h3, .inr (4, cY (upd (upd (upd (upd (upd (upd (upd (upd (upd Y 0 1) 6 (X 6)) 7 (X 10)) 8 1) 1 (X 5)) 2 (X 0)) 3 (X 1)) 4 (X 2)) 5 (X 7)) h4)), (h4, .inr (2, cT1 (upd (upd (upd (upd (upd (upd (upd (upd (upd Y 0 1) 6 (X 6)) 7 (X 10)) 8 1) 1 (X 5)) 2 (X 0)) 3 (X 1)) 4 (X 2)) 5 (X 7))))]) H76 := hP76
          have hD78 : va_D A ([(h0, .inr (5, cD (upd (upd z 3 (kUshr (z 3) 1)) 1 ((z 1) + 1)) r0 r1 r2 r3)), (h1, .inr (0, cE (upd (upd (upd X 9 (kMax ((X 9) - 1) 0)) 10 0) 9 r14) h2)), (h2, .inr (2, cT11 (upd (upd (upd X 9 (kMax ((X 9) - 1) 0)) 10 0) 9 r14))), (h3, .inr (4, cY (upd (upd (upd (upd (upd (upd (upd (upd (upd Y 0 1) 6 (X 6)) 7 (X 10)) 8 1) 1 (X 5)) 2 (X 0)) 3 (X 1)) 4 (X 2)) 5 (X 7)) h4)), (h4, .inr (2, cT1 (upd (upd (upd (upd (upd (upd (upd (upd (upd Y 0 1) 6 (X 6)) 7 (X 10)) 8 1) 1 (X 5)) 2 (X 0)) 3 (X 1)) 4 (X 2)) 5 (X 7))))]) := hD76
          have e0 : s_X5_sendIfDue_z z X = upd (upd z 3 (kUshr (z 3) 1)) 1 ((z 1) + 1) := by rw [s_X5_sendIfDue_z]; (try rw [hr8]); (try rw [hr14]); rw [if_pos c1, if_pos c7, if_pos c9, if_neg c10]
          have e1 : s_X5_sendIfDue_X z X = upd (upd (upd X 9 (kMax ((X 9) - 1) 0)) 10 0) 9 r14 := by rw [s_X5_sendIfDue_X]; (try rw [hr8]); (try rw [hr14]); rw [if_pos c1, if_pos c7, if_pos c9, if_neg c10]
          have e2 : s_X5_sendIfDue_Y z X Y = upd (upd (upd (upd (upd (upd (upd (upd (upd Y 0 1) 6 (X 6)) 7 (X 10)) 8 1) 1 (X 5)) 2 (X 0)) 3 (X 1)) 4 (X 2)) 5 (X 7) := by rw [s_X5_sendIfDue_Y]; (try rw [hr8]); (try rw [hr14]); rw [if_pos c1, if_pos c7, if_pos c9, if_neg c10]
          exact k_vret kx hK hP77 hD78 hS76 (u := (upd (upd z 3 (kUshr (z 3) 1)) 1 ((z 1) + 1), upd (upd (upd X 9 (kMax ((X 9) - 1) 0)) 10 0) 9 r14, upd (upd (upd (upd (upd (upd (upd (upd (upd Y 0 1) 6 (X 6)) 7 (X 10)) 8 1) 1 (X 5)) 2 (X 0)) 3 (X 1)) 4 (X 2)) 5 (X 7))) rfl ⟨e0.symm, e1.symm, e2.symm⟩ dX5_sendIfDue_87
theorem b_s_X5_sendIfDue_X (z : Nat → Int32) (X : Nat → Int32) (hX : bE X) : bE (s_X5_sendIfDue_X z X) := by
  unfold s_X5_sendIfDue_X
  split
  · skip
    split
    · skip
      split
      · skip
        split
        · skip
          exact ⟨hX.1, hX.2.1, kb0, hX.2.2.2⟩
        · skip
          exact ⟨hX.1, hX.2.1, kb0, hX.2.2.2⟩
      · skip
        exact ⟨hX.1, hX.2.1, hX.2.2.1, hX.2.2.2⟩
    · skip
      exact ⟨hX.1, hX.2.1, hX.2.2.1, hX.2.2.2⟩
  · skip
    split
    · skip
      exact ⟨hX.1, hX.2.1, kb0, hX.2.2.2⟩
    · skip
      exact ⟨hX.1, hX.2.1, kb0, hX.2.2.2⟩
theorem b_s_X5_sendIfDue_Y (z : Nat → Int32) (X : Nat → Int32) (Y : Nat → Int32) (hX : bE X) (hY : bY Y) : bY (s_X5_sendIfDue_Y z X Y) := by
  unfold s_X5_sendIfDue_Y
  split
  · skip
    split
    · skip
      split
      · skip
        split
        · skip
          exact ⟨kb1, hX.2.1, hX.1, hX.2.2.1, kb0, hY.2.2.2.2.2⟩
        · skip
          exact ⟨kb1, hX.2.1, hX.1, hX.2.2.1, kb1, hY.2.2.2.2.2⟩
      · skip
        exact hY
    · skip
      exact hY
  · skip
    split
    · skip
      exact ⟨kb1, hX.2.1, hX.1, hX.2.2.1, kb0, hY.2.2.2.2.2⟩
    · skip
      exact ⟨kb1, hX.2.1, hX.1, hX.2.2.1, kb1, hY.2.2.2.2.2⟩

def s_X5_tick_g (g : Nat → Nat → Int32) : Nat → Nat → Int32 := if (r_X5_areBothUp (s_X5_sendIfDue_X (upd (g 4) 0 ((g 4 0) + 1)) (s_X0_fallIfSilent_X (s_X0_listen_X (g 0) (g 3)))) (s_X5_sendIfDue_X (s_X5_sendIfDue_z (upd (g 4) 0 ((g 4 0) + 1)) (s_X0_fallIfSilent_X (s_X0_listen_X (g 0) (g 3)))) (s_X0_fallIfSilent_X (s_X0_listen_X (g 1) (g 2))))) = 0 then (kg (s_X5_sendIfDue_X (upd (g 4) 0 ((g 4 0) + 1)) (s_X0_fallIfSilent_X (s_X0_listen_X (g 0) (g 3)))) (s_X5_sendIfDue_X (s_X5_sendIfDue_z (upd (g 4) 0 ((g 4 0) + 1)) (s_X0_fallIfSilent_X (s_X0_listen_X (g 0) (g 3)))) (s_X0_fallIfSilent_X (s_X0_listen_X (g 1) (g 2)))) (s_X5_sendIfDue_Y (upd (g 4) 0 ((g 4 0) + 1)) (s_X0_fallIfSilent_X (s_X0_listen_X (g 0) (g 3))) (s_X4_takeOff_Y (g 2))) (s_X5_sendIfDue_Y (s_X5_sendIfDue_z (upd (g 4) 0 ((g 4 0) + 1)) (s_X0_fallIfSilent_X (s_X0_listen_X (g 0) (g 3)))) (s_X0_fallIfSilent_X (s_X0_listen_X (g 1) (g 2))) (s_X4_takeOff_Y (g 3))) (s_X5_sendIfDue_z (s_X5_sendIfDue_z (upd (g 4) 0 ((g 4 0) + 1)) (s_X0_fallIfSilent_X (s_X0_listen_X (g 0) (g 3)))) (s_X0_fallIfSilent_X (s_X0_listen_X (g 1) (g 2))))) else kg (s_X5_sendIfDue_X (upd (g 4) 0 ((g 4 0) + 1)) (s_X0_fallIfSilent_X (s_X0_listen_X (g 0) (g 3)))) (s_X5_sendIfDue_X (s_X5_sendIfDue_z (upd (g 4) 0 ((g 4 0) + 1)) (s_X0_fallIfSilent_X (s_X0_listen_X (g 0) (g 3)))) (s_X0_fallIfSilent_X (s_X0_listen_X (g 1) (g 2)))) (s_X5_sendIfDue_Y (upd (g 4) 0 ((g 4 0) + 1)) (s_X0_fallIfSilent_X (s_X0_listen_X (g 0) (g 3))) (s_X4_takeOff_Y (g 2))) (s_X5_sendIfDue_Y (s_X5_sendIfDue_z (upd (g 4) 0 ((g 4 0) + 1)) (s_X0_fallIfSilent_X (s_X0_listen_X (g 0) (g 3)))) (s_X0_fallIfSilent_X (s_X0_listen_X (g 1) (g 2))) (s_X4_takeOff_Y (g 3))) (upd (s_X5_sendIfDue_z (s_X5_sendIfDue_z (upd (g 4) 0 ((g 4 0) + 1)) (s_X0_fallIfSilent_X (s_X0_listen_X (g 0) (g 3)))) (s_X0_fallIfSilent_X (s_X0_listen_X (g 1) (g 2)))) 2 (((s_X5_sendIfDue_z (s_X5_sendIfDue_z (upd (g 4) 0 ((g 4 0) + 1)) (s_X0_fallIfSilent_X (s_X0_listen_X (g 0) (g 3)))) (s_X0_fallIfSilent_X (s_X0_listen_X (g 1) (g 2)))) 2) + 1))
set_option maxHeartbeats 4000000 in
set_option maxRecDepth 100000 in
theorem c_X5_tick (l : Launch) (G : kG) (g : Nat → Nat → Int32) (a : Nat → Nat) (hg : bW g) : cG l G yX5_tick cX5_tick 1 none 3 [.ref (a 0)] (cW a g) (qV G (fun u : (Nat → Nat → Int32) => u = s_X5_tick_g g) (fun u => cW a u)) := by
  refine kintro (by decide) (Nat.le_of_ble_eq_true rfl) ?_
  intro p e s m args below meth c A ls kx hK hP hD hS hA hl
  have kx : kX p s m args meth c cX5_tick 1 none RX5 := kx
  have hx := kx.1
  have hb := kx.2.1
  have hown := kx.2.2.2.2.1
  have ht := kx.2.2.2.2.2.2
  have hl : lv_has ls 1 [(0, .ref (a 0))] := hl
  refine lv_aload_n hx hb dX5_tick_0 rfl (lv_at hl 0 rfl) ?_
  refine lv_dup hx hb dX5_tick_1 rfl ?_
  refine va_get (ci := 5) (v := .int (g 4 0)) (C := RX5) (T := TX5) (N := 8) hx hb ht inX5 hown hK.1 hP 0 rfl rfl 4 (by decide) (ht _ q_216) (fun _ h9 => h9) rfl dX5_tick_2 ?_
  refine lv_iconst (v := 1) hx hb dX5_tick_5 (by decide) ?_
  refine lv_iadd hx hb dX5_tick_6 ?_
  refine va_put (ci := 5) (v := .int ((g 4 0) + 1)) (ty := .int) (C := RX5) (T := TX5) (N := 8) hx hb ht inX5 tyX5 tyX5_ok nmX5 hown hK.1 hP hD hS 0 rfl rfl 4 (by decide) (ht _ q_216) (fun _ h9 => h9) rfl (by decide +kernel) rfl rfl (Nat.le_of_ble_eq_true rfl) dX5_tick_7 (fun H1 locs1 hP1 hD1 hS1 => ?_)
  have hP2 : va_P G.1 vwCl (cW a (kg (g 0) (g 1) (g 2) (g 3) (upd (g 4) 0 ((g 4 0) + 1)))) H1 := hP1
  have hD3 : va_D A (cW a (kg (g 0) (g 1) (g 2) (g 3) (upd (g 4) 0 ((g 4 0) + 1)))) := hD1
  refine lv_aload_n hx hb dX5_tick_10 rfl (lv_at hl 0 rfl) ?_
  refine va_get (ci := 5) (v := .ref (a 1)) (C := RX5) (T := TX5) (N := 8) hx hb ht inX5 hown hK.1 hP2 0 rfl rfl 0 (by decide) (ht _ q_208) (fun _ h9 => h9) rfl dX5_tick_11 ?_
  refine lv_aload_n hx hb dX5_tick_14 rfl (lv_at hl 0 rfl) ?_
  refine va_get (ci := 5) (v := .ref (a 7)) (C := RX5) (T := TX5) (N := 8) hx hb ht inX5 hown hK.1 hP2 0 rfl rfl 3 (by decide) (ht _ q_214) (fun _ h9 => h9) rfl dX5_tick_15 ?_
  refine k_callv (kRunV (As := [.ref (a 7)]) (rest := []) kx (c_X0_listen l G (g 0) (g 3) (a 1) (a 2) (a 7) (a 8) hg.2.2.2) q_363 q_360 q_32 q_361 q_362 nX0_listen ⟨Nat.le_of_ble_eq_true rfl, Nat.le_of_ble_eq_true rfl⟩ hK hP2 hD3 (kCtx_places _ _ [1, 2, 7, 8] rfl rfl) 0 0 rfl rfl rfl rfl hl.1 (Nat.le_of_ble_eq_true rfl) dX5_tick_18 ⟨Nat.zero_le _, Nat.zero_le _⟩) hP2 hD3 hS1 hA (kCtx_places _ _ [1, 2, 7, 8] rfl rfl) (fun _ => rfl) (fun F2 H4 locs4 hw hP4 hD4 hS4 => ?_)
  have hF2 : s_X0_listen_X (g 0) (g 3) = F2 := (show F2 = s_X0_listen_X (g 0) (g 3) from hw).symm
  have hP5 : va_P G.1 vwCl (cW a (kg F2 (g 1) (g 2) (s_X4_takeOff_Y (g 3)) (upd (g 4) 0 ((g 4 0) + 1)))) H4 := hP4
  have hD6 : va_D A (cW a (kg F2 (g 1) (g 2) (s_X4_takeOff_Y (g 3)) (upd (g 4) 0 ((g 4 0) + 1)))) := hD4
  refine lv_aload_n hx hb dX5_tick_21 rfl (lv_at hl 0 rfl) ?_
  refine va_get (ci := 5) (v := .ref (a 3)) (C := RX5) (T := TX5) (N := 8) hx hb ht inX5 hown hK.1 hP5 0 rfl rfl 1 (by decide) (ht _ q_210) (fun _ h9 => h9) rfl dX5_tick_22 ?_
  refine lv_aload_n hx hb dX5_tick_25 rfl (lv_at hl 0 rfl) ?_
  refine va_get (ci := 5) (v := .ref (a 5)) (C := RX5) (T := TX5) (N := 8) hx hb ht inX5 hown hK.1 hP5 0 rfl rfl 2 (by decide) (ht _ q_212) (fun _ h9 => h9) rfl dX5_tick_26 ?_
  refine k_callv (kRunV (As := [.ref (a 5)]) (rest := []) kx (c_X0_listen l G (g 1) (g 2) (a 3) (a 4) (a 5) (a 6) hg.2.2.1) q_363 q_360 q_32 q_361 q_362 nX0_listen ⟨Nat.le_of_ble_eq_true rfl, Nat.le_of_ble_eq_true rfl⟩ hK hP5 hD6 (kCtx_places _ _ [3, 4, 5, 6] rfl rfl) 0 0 rfl rfl rfl rfl hl.1 (Nat.le_of_ble_eq_true rfl) dX5_tick_29 ⟨Nat.zero_le _, Nat.zero_le _⟩) hP5 hD6 hS4 hA (kCtx_places _ _ [3, 4, 5, 6] rfl rfl) (fun _ => rfl) (fun F4 H7 locs7 hw hP7 hD7 hS7 => ?_)
  have hF4 : s_X0_listen_X (g 1) (g 2) = F4 := (show F4 = s_X0_listen_X (g 1) (g 2) from hw).symm
  have hP8 : va_P G.1 vwCl (cW a (kg F2 F4 (s_X4_takeOff_Y (g 2)) (s_X4_takeOff_Y (g 3)) (upd (g 4) 0 ((g 4 0) + 1)))) H7 := hP7
  have hD9 : va_D A (cW a (kg F2 F4 (s_X4_takeOff_Y (g 2)) (s_X4_takeOff_Y (g 3)) (upd (g 4) 0 ((g 4 0) + 1)))) := hD7
  refine lv_aload_n hx hb dX5_tick_32 rfl (lv_at hl 0 rfl) ?_
  refine va_get (ci := 5) (v := .ref (a 1)) (C := RX5) (T := TX5) (N := 8) hx hb ht inX5 hown hK.1 hP8 0 rfl rfl 0 (by decide) (ht _ q_208) (fun _ h9 => h9) rfl dX5_tick_33 ?_
  refine k_callv (kRunV (As := []) (rest := []) kx (c_X0_fallIfSilent l G F2 (a 1) (a 2)) q_387 q_384 q_32 q_385 q_386 nX0_fallIfSilent ⟨Nat.le_of_ble_eq_true rfl, Nat.le_of_ble_eq_true rfl⟩ hK hP8 hD9 (kCtx_places _ _ [1, 2] rfl rfl) 0 0 rfl rfl rfl rfl hl.1 (Nat.le_of_ble_eq_true rfl) dX5_tick_36 ⟨Nat.zero_le _, Nat.zero_le _⟩) hP8 hD9 hS7 hA (kCtx_places _ _ [1, 2] rfl rfl) (fun _ => rfl) (fun F6 H10 locs10 hw hP10 hD10 hS10 => ?_)
  have hF6 : s_X0_fallIfSilent_X F2 = F6 := (show F6 = s_X0_fallIfSilent_X F2 from hw).symm
  have hP11 : va_P G.1 vwCl (cW a (kg F6 F4 (s_X4_takeOff_Y (g 2)) (s_X4_takeOff_Y (g 3)) (upd (g 4) 0 ((g 4 0) + 1)))) H10 := hP10
  have hD12 : va_D A (cW a (kg F6 F4 (s_X4_takeOff_Y (g 2)) (s_X4_takeOff_Y (g 3)) (upd (g 4) 0 ((g 4 0) + 1)))) := hD10
  refine lv_aload_n hx hb dX5_tick_39 rfl (lv_at hl 0 rfl) ?_
  refine va_get (ci := 5) (v := .ref (a 3)) (C := RX5) (T := TX5) (N := 8) hx hb ht inX5 hown hK.1 hP11 0 rfl rfl 1 (by decide) (ht _ q_210) (fun _ h9 => h9) rfl dX5_tick_40 ?_
  refine k_callv (kRunV (As := []) (rest := []) kx (c_X0_fallIfSilent l G F4 (a 3) (a 4)) q_387 q_384 q_32 q_385 q_386 nX0_fallIfSilent ⟨Nat.le_of_ble_eq_true rfl, Nat.le_of_ble_eq_true rfl⟩ hK hP11 hD12 (kCtx_places _ _ [3, 4] rfl rfl) 0 0 rfl rfl rfl rfl hl.1 (Nat.le_of_ble_eq_true rfl) dX5_tick_43 ⟨Nat.zero_le _, Nat.zero_le _⟩) hP11 hD12 hS10 hA (kCtx_places _ _ [3, 4] rfl rfl) (fun _ => rfl) (fun F8 H13 locs13 hw hP13 hD13 hS13 => ?_)
  have hF8 : s_X0_fallIfSilent_X F4 = F8 := (show F8 = s_X0_fallIfSilent_X F4 from hw).symm
  have hP14 : va_P G.1 vwCl (cW a (kg F6 F8 (s_X4_takeOff_Y (g 2)) (s_X4_takeOff_Y (g 3)) (upd (g 4) 0 ((g 4 0) + 1)))) H13 := hP13
  have hD15 : va_D A (cW a (kg F6 F8 (s_X4_takeOff_Y (g 2)) (s_X4_takeOff_Y (g 3)) (upd (g 4) 0 ((g 4 0) + 1)))) := hD13
  refine lv_aload_n hx hb dX5_tick_46 rfl (lv_at hl 0 rfl) ?_
  refine lv_aload_n hx hb dX5_tick_47 rfl (lv_at hl 0 rfl) ?_
  refine va_get (ci := 5) (v := .ref (a 1)) (C := RX5) (T := TX5) (N := 8) hx hb ht inX5 hown hK.1 hP14 0 rfl rfl 0 (by decide) (ht _ q_208) (fun _ h9 => h9) rfl dX5_tick_48 ?_
  refine lv_aload_n hx hb dX5_tick_51 rfl (lv_at hl 0 rfl) ?_
  refine va_get (ci := 5) (v := .ref (a 5)) (C := RX5) (T := TX5) (N := 8) hx hb ht inX5 hown hK.1 hP14 0 rfl rfl 2 (by decide) (ht _ q_212) (fun _ h9 => h9) rfl dX5_tick_52 ?_
  refine k_callv (kRunV (As := [.ref (a 1), .ref (a 5)]) (rest := []) kx (c_X5_sendIfDue l G (upd (g 4) 0 ((g 4 0) + 1)) F6 (s_X4_takeOff_Y (g 2)) (a 0) (a 1) (a 3) (a 5) (a 7) (a 1) (a 2) (a 5) (a 6) (show bE F6 from by rw [← hF6]; exact (b_s_X0_fallIfSilent_X F2 (show bE F2 from by rw [← hF2]; exact (b_s_X0_listen_X (g 0) (g 3) hg.1 hg.2.2.2))))) q_403 q_400 q_31 q_402 q_1 nX5_sendIfDue ⟨Nat.le_of_ble_eq_true rfl, Nat.le_of_ble_eq_true rfl⟩ hK hP14 hD15 (kCtx_places _ _ [0, 1, 2, 5, 6] rfl rfl) 0 5 rfl rfl rfl rfl hl.1 (Nat.le_of_ble_eq_true rfl) dX5_tick_55 ⟨Nat.zero_le _, Nat.zero_le _⟩) hP14 hD15 hS13 hA (kCtx_places _ _ [0, 1, 2, 5, 6] rfl rfl) (fun _ => rfl) (fun u H16 locs16 hw hP16 hD16 hS16 => ?_)
  obtain ⟨F10, F11, F12⟩ := u
  obtain ⟨hF10, hF11, hF12⟩ := hw
  have hF10 : s_X5_sendIfDue_z (upd (g 4) 0 ((g 4 0) + 1)) F6 = F10 := (show F10 = s_X5_sendIfDue_z (upd (g 4) 0 ((g 4 0) + 1)) F6 from hF10).symm
  have hF11 : s_X5_sendIfDue_X (upd (g 4) 0 ((g 4 0) + 1)) F6 = F11 := (show F11 = s_X5_sendIfDue_X (upd (g 4) 0 ((g 4 0) + 1)) F6 from hF11).symm
  have hF12 : s_X5_sendIfDue_Y (upd (g 4) 0 ((g 4 0) + 1)) F6 (s_X4_takeOff_Y (g 2)) = F12 := (show F12 = s_X5_sendIfDue_Y (upd (g 4) 0 ((g 4 0) + 1)) F6 (s_X4_takeOff_Y (g 2)) from hF12).symm
  have hP17 : va_P G.1 vwCl (cW a (kg F11 F8 F12 (s_X4_takeOff_Y (g 3)) F10)) H16 := hP16
  have hD18 : va_D A (cW a (kg F11 F8 F12 (s_X4_takeOff_Y (g 3)) F10)) := hD16
  refine lv_aload_n hx hb dX5_tick_58 rfl (lv_at hl 0 rfl) ?_
  refine lv_aload_n hx hb dX5_tick_59 rfl (lv_at hl 0 rfl) ?_
  refine va_get (ci := 5) (v := .ref (a 3)) (C := RX5) (T := TX5) (N := 8) hx hb ht inX5 hown hK.1 hP17 0 rfl rfl 1 (by decide) (ht _ q_210) (fun _ h9 => h9) rfl dX5_tick_60 ?_
  refine lv_aload_n hx hb dX5_tick_63 rfl (lv_at hl 0 rfl) ?_
  refine va_get (ci := 5) (v := .ref (a 7)) (C := RX5) (T := TX5) (N := 8) hx hb ht inX5 hown hK.1 hP17 0 rfl rfl 3 (by decide) (ht _ q_214) (fun _ h9 => h9) rfl dX5_tick_64 ?_
  refine k_callv (kRunV (As := [.ref (a 3), .ref (a 7)]) (rest := []) kx (c_X5_sendIfDue l G F10 F8 (s_X4_takeOff_Y (g 3)) (a 0) (a 1) (a 3) (a 5) (a 7) (a 3) (a 4) (a 7) (a 8) (show bE F8 from by rw [← hF8]; exact (b_s_X0_fallIfSilent_X F4 (show bE F4 from by rw [← hF4]; exact (b_s_X0_listen_X (g 1) (g 2) hg.2.1 hg.2.2.1))))) q_403 q_400 q_31 q_402 q_1 nX5_sendIfDue ⟨Nat.le_of_ble_eq_true rfl, Nat.le_of_ble_eq_true rfl⟩ hK hP17 hD18 (kCtx_places _ _ [0, 3, 4, 7, 8] rfl rfl) 0 5 rfl rfl rfl rfl hl.1 (Nat.le_of_ble_eq_true rfl) dX5_tick_67 ⟨Nat.zero_le _, Nat.zero_le _⟩) hP17 hD18 hS16 hA (kCtx_places _ _ [0, 3, 4, 7, 8] rfl rfl) (fun _ => rfl) (fun u H19 locs19 hw hP19 hD19 hS19 => ?_)
  obtain ⟨F14, F15, F16⟩ := u
  obtain ⟨hF14, hF15, hF16⟩ := hw
  have hF14 : s_X5_sendIfDue_z F10 F8 = F14 := (show F14 = s_X5_sendIfDue_z F10 F8 from hF14).symm
  have hF15 : s_X5_sendIfDue_X F10 F8 = F15 := (show F15 = s_X5_sendIfDue_X F10 F8 from hF15).symm
  have hF16 : s_X5_sendIfDue_Y F10 F8 (s_X4_takeOff_Y (g 3)) = F16 := (show F16 = s_X5_sendIfDue_Y F10 F8 (s_X4_takeOff_Y (g 3)) from hF16).symm
  have hP20 : va_P G.1 vwCl (cW a (kg F11 F15 F12 F16 F14)) H19 := hP19
  have hD21 : va_D A (cW a (kg F11 F15 F12 F16 F14)) := hD19
  refine lv_aload_n hx hb dX5_tick_70 rfl (lv_at hl 0 rfl) ?_
  refine k_calli (kRunV (As := []) (rest := []) kx (c_X5_areBothUp l G F14 F11 F15 (a 0) (a 1) (a 2) (a 3) (a 4) (a 5) (a 7)) q_424 q_421 q_31 q_422 q_423 nX5_areBothUp ⟨Nat.le_of_ble_eq_true rfl, Nat.le_of_ble_eq_true rfl⟩ hK hP20 hD21 (kCtx_places _ _ [0, 1, 2, 3, 4] rfl rfl) 0 5 rfl rfl rfl rfl hl.1 (Nat.le_of_ble_eq_true rfl) dX5_tick_71 ⟨Nat.zero_le _, Nat.zero_le _⟩) hP20 hD21 hS19 hA (kCtx_places _ _ [0, 1, 2, 3, 4] rfl rfl) (fun _ => rfl) (fun r17 _ H22 locs22 hw hP22 hD22 hS22 => ?_)
  have hr17 : r_X5_areBothUp F11 F15 = r17 := (show r17 = r_X5_areBothUp F11 F15 from hw).symm
  have hP23 : va_P G.1 vwCl (cW a (kg F11 F15 F12 F16 F14)) H22 := hP22
  have hD24 : va_D A (cW a (kg F11 F15 F12 F16 F14)) := hD22
  refine lv_if_eq (x := r17) (tgt := 87) hx hb dX5_tick_74 (by decide) (fun (c18 : r17 = 0) => ?_) (fun (c18 : ¬ (r17 = 0)) => ?_)
  · skip
    have e0 : s_X5_tick_g g = kg F11 F15 F12 F16 F14 := by rw [s_X5_tick_g]; (try rw [hF2]); (try rw [hF4]); (try rw [hF6]); (try rw [hF8]); (try rw [hF10]); (try rw [hF11]); (try rw [hF12]); (try rw [hF14]); (try rw [hF15]); (try rw [hF16]); (try rw [hr17]); rw [if_pos c18]
    exact k_vret kx hK hP23 hD24 hS22 (u := kg F11 F15 F12 F16 F14) rfl e0.symm dX5_tick_87
  · skip
    refine lv_aload_n hx hb dX5_tick_77 rfl (lv_at hl 0 rfl) ?_
    refine lv_dup hx hb dX5_tick_78 rfl ?_
    refine va_get (ci := 5) (v := .int (F14 2)) (C := RX5) (T := TX5) (N := 8) hx hb ht inX5 hown hK.1 hP23 0 rfl rfl 6 (by decide) (ht _ q_220) (fun _ h9 => h9) rfl dX5_tick_79 ?_
    refine lv_iconst (v := 1) hx hb dX5_tick_82 (by decide) ?_
    refine lv_iadd hx hb dX5_tick_83 ?_
    refine va_put (ci := 5) (v := .int ((F14 2) + 1)) (ty := .int) (C := RX5) (T := TX5) (N := 8) hx hb ht inX5 tyX5 tyX5_ok nmX5 hown hK.1 hP23 hD24 hS22 0 rfl rfl 6 (by decide) (ht _ q_220) (fun _ h9 => h9) rfl (by decide +kernel) rfl rfl (Nat.le_of_ble_eq_true rfl) dX5_tick_84 (fun H25 locs25 hP25 hD25 hS25 => ?_)
    have hP26 : va_P G.1 vwCl (cW a (kg F11 F15 F12 F16 (upd F14 2 ((F14 2) + 1)))) H25 := hP25
    have hD27 : va_D A (cW a (kg F11 F15 F12 F16 (upd F14 2 ((F14 2) + 1)))) := hD25
    have e0 : s_X5_tick_g g = kg F11 F15 F12 F16 (upd F14 2 ((F14 2) + 1)) := by rw [s_X5_tick_g]; (try rw [hF2]); (try rw [hF4]); (try rw [hF6]); (try rw [hF8]); (try rw [hF10]); (try rw [hF11]); (try rw [hF12]); (try rw [hF14]); (try rw [hF15]); (try rw [hF16]); (try rw [hr17]); rw [if_neg c18]
    exact k_vret kx hK hP26 hD27 hS25 (u := kg F11 F15 F12 F16 (upd F14 2 ((F14 2) + 1))) rfl e0.symm dX5_tick_87
theorem b_s_X5_tick_g (g : Nat → Nat → Int32) (hg : bW g) : bW (s_X5_tick_g g) := by
  unfold s_X5_tick_g
  split
  · skip
    exact ⟨(b_s_X5_sendIfDue_X (upd (g 4) 0 ((g 4 0) + 1)) (s_X0_fallIfSilent_X (s_X0_listen_X (g 0) (g 3))) (b_s_X0_fallIfSilent_X (s_X0_listen_X (g 0) (g 3)) (b_s_X0_listen_X (g 0) (g 3) hg.1 hg.2.2.2))), (b_s_X5_sendIfDue_X (s_X5_sendIfDue_z (upd (g 4) 0 ((g 4 0) + 1)) (s_X0_fallIfSilent_X (s_X0_listen_X (g 0) (g 3)))) (s_X0_fallIfSilent_X (s_X0_listen_X (g 1) (g 2))) (b_s_X0_fallIfSilent_X (s_X0_listen_X (g 1) (g 2)) (b_s_X0_listen_X (g 1) (g 2) hg.2.1 hg.2.2.1))), (b_s_X5_sendIfDue_Y (upd (g 4) 0 ((g 4 0) + 1)) (s_X0_fallIfSilent_X (s_X0_listen_X (g 0) (g 3))) (s_X4_takeOff_Y (g 2)) (b_s_X0_fallIfSilent_X (s_X0_listen_X (g 0) (g 3)) (b_s_X0_listen_X (g 0) (g 3) hg.1 hg.2.2.2)) (b_s_X4_takeOff_Y (g 2) hg.2.2.1)), (b_s_X5_sendIfDue_Y (s_X5_sendIfDue_z (upd (g 4) 0 ((g 4 0) + 1)) (s_X0_fallIfSilent_X (s_X0_listen_X (g 0) (g 3)))) (s_X0_fallIfSilent_X (s_X0_listen_X (g 1) (g 2))) (s_X4_takeOff_Y (g 3)) (b_s_X0_fallIfSilent_X (s_X0_listen_X (g 1) (g 2)) (b_s_X0_listen_X (g 1) (g 2) hg.2.1 hg.2.2.1)) (b_s_X4_takeOff_Y (g 3) hg.2.2.2))⟩
  · skip
    exact ⟨(b_s_X5_sendIfDue_X (upd (g 4) 0 ((g 4 0) + 1)) (s_X0_fallIfSilent_X (s_X0_listen_X (g 0) (g 3))) (b_s_X0_fallIfSilent_X (s_X0_listen_X (g 0) (g 3)) (b_s_X0_listen_X (g 0) (g 3) hg.1 hg.2.2.2))), (b_s_X5_sendIfDue_X (s_X5_sendIfDue_z (upd (g 4) 0 ((g 4 0) + 1)) (s_X0_fallIfSilent_X (s_X0_listen_X (g 0) (g 3)))) (s_X0_fallIfSilent_X (s_X0_listen_X (g 1) (g 2))) (b_s_X0_fallIfSilent_X (s_X0_listen_X (g 1) (g 2)) (b_s_X0_listen_X (g 1) (g 2) hg.2.1 hg.2.2.1))), (b_s_X5_sendIfDue_Y (upd (g 4) 0 ((g 4 0) + 1)) (s_X0_fallIfSilent_X (s_X0_listen_X (g 0) (g 3))) (s_X4_takeOff_Y (g 2)) (b_s_X0_fallIfSilent_X (s_X0_listen_X (g 0) (g 3)) (b_s_X0_listen_X (g 0) (g 3) hg.1 hg.2.2.2)) (b_s_X4_takeOff_Y (g 2) hg.2.2.1)), (b_s_X5_sendIfDue_Y (s_X5_sendIfDue_z (upd (g 4) 0 ((g 4 0) + 1)) (s_X0_fallIfSilent_X (s_X0_listen_X (g 0) (g 3)))) (s_X0_fallIfSilent_X (s_X0_listen_X (g 1) (g 2))) (s_X4_takeOff_Y (g 3)) (b_s_X0_fallIfSilent_X (s_X0_listen_X (g 1) (g 2)) (b_s_X0_listen_X (g 1) (g 2) hg.2.1 hg.2.2.1)) (b_s_X4_takeOff_Y (g 3) hg.2.2.2))⟩
