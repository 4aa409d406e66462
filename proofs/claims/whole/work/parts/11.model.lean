def r_X7_in (p0 : Int64) (p1 : Int64) (p2 : Int64) : Int32 := if lg_cmp p0 p1 < 0 then 0 else if 0 < lg_cmp p0 p2 then 0 else 1
set_option maxHeartbeats 4000000 in
set_option maxRecDepth 100000 in
theorem c_X7_in (l : Launch) (G : kG) (p0 : Int64) (p1 : Int64) (p2 : Int64) : cG l G yX7_in cX7_in 6 (some .boolean) 0 [.long p0, .long p1, .long p2] ([]) (qI G (fun (r : Int32) (_ : Unit) => r = r_X7_in p0 p1 p2) (fun _ => [])) := by
  refine kintro (by decide) (Nat.le_of_ble_eq_true rfl) ?_
  intro p e s m args below meth c A ls kx hK hP hD hS hA hl
  have kx : kX p s m args meth c cX7_in 6 (some .boolean) RX7 := kx
  have hx := kx.1
  have hb := kx.2.1
  have hown := kx.2.2.2.2.1
  have ht := kx.2.2.2.2.2.2
  have hl : lv_has ls 6 [(0, .long p0), (2, .long p1), (4, .long p2)] := hl
  refine lv_lload_n hx hb dX7_in_0 rfl (lv_at hl 0 rfl) ?_
  refine lv_lload_n hx hb dX7_in_1 rfl (lv_at hl 1 rfl) ?_
  refine W.lcmp hx hb dX7_in_2 ?_
  refine lv_if_lt (x := lg_cmp p0 p1) (tgt := 17) hx hb dX7_in_3 (by decide) (fun (c1 : lg_cmp p0 p1 < 0) => ?_) (fun (c1 : ¬ (lg_cmp p0 p1 < 0)) => ?_)
  · skip
    refine lv_iconst (v := 0) hx hb dX7_in_17 (by decide) ?_
    have er : r_X7_in p0 p1 p2 = 0 := by rw [r_X7_in, if_pos c1]
    exact k_zret kx hK hP hD hS (u := ()) rfl er.symm kb0 dX7_in_18
  · skip
    refine lv_lload_n hx hb dX7_in_6 rfl (lv_at hl 0 rfl) ?_
    refine lv_lload hx hb dX7_in_7 (lv_at hl 2 rfl) ?_
    refine W.lcmp hx hb dX7_in_9 ?_
    refine lv_if_gt (x := lg_cmp p0 p2) (tgt := 17) hx hb dX7_in_10 (by decide) (fun (c2 : 0 < lg_cmp p0 p2) => ?_) (fun (c2 : ¬ (0 < lg_cmp p0 p2)) => ?_)
    · skip
      refine lv_iconst (v := 0) hx hb dX7_in_17 (by decide) ?_
      have er : r_X7_in p0 p1 p2 = 0 := by rw [r_X7_in, if_neg c1, if_pos c2]
      exact k_zret kx hK hP hD hS (u := ()) rfl er.symm kb0 dX7_in_18
    · skip
      refine lv_iconst (v := 1) hx hb dX7_in_13 (by decide) ?_
      refine lv_goto (tgt := 18) hx hb dX7_in_14 (by decide) ?_
      have er : r_X7_in p0 p1 p2 = 1 := by rw [r_X7_in, if_neg c1, if_neg c2]
      exact k_zret kx hK hP hD hS (u := ()) rfl er.symm kb1 dX7_in_18
theorem kbr_X7_in (p0 : Int64) (p1 : Int64) (p2 : Int64) : kb (r_X7_in p0 p1 p2) := by
  unfold r_X7_in
  repeat' split
  all_goals first | exact kb0 | exact kb1

def r_X7_has (p0 : Int32) (p1 : Int32) : Int32 := if (kShr p0 p1) &&& 1 = 1 then 1 else 0
set_option maxHeartbeats 4000000 in
set_option maxRecDepth 100000 in
theorem c_X7_has (l : Launch) (G : kG) (p0 : Int32) (p1 : Int32) : cG l G yX7_has cX7_has 2 (some .boolean) 0 [.int p0, .int p1] ([]) (qI G (fun (r : Int32) (_ : Unit) => r = r_X7_has p0 p1) (fun _ => [])) := by
  refine kintro (by decide) (Nat.le_of_ble_eq_true rfl) ?_
  intro p e s m args below meth c A ls kx hK hP hD hS hA hl
  have kx : kX p s m args meth c cX7_has 2 (some .boolean) RX7 := kx
  have hx := kx.1
  have hb := kx.2.1
  have hown := kx.2.2.2.2.1
  have ht := kx.2.2.2.2.2.2
  have hl : lv_has ls 2 [(0, .int p0), (1, .int p1)] := hl
  refine lv_iload_n hx hb dX7_has_0 rfl (lv_at hl 0 rfl) ?_
  refine lv_iload_n hx hb dX7_has_1 rfl (lv_at hl 1 rfl) ?_
  refine lv_ishr hx hb dX7_has_2 ?_
  refine k_top (y := kShr p0 p1) rfl ?_
  refine lv_iconst (v := 1) hx hb dX7_has_3 (by decide) ?_
  refine lv_iand hx hb dX7_has_4 ?_
  refine lv_iconst (v := 1) hx hb dX7_has_5 (by decide) ?_
  refine lv_icmp_ne (x := (kShr p0 p1) &&& 1) (y := 1) (tgt := 13) hx hb dX7_has_6 (by decide) (fun (c1 : ¬ ((kShr p0 p1) &&& 1 = 1)) => ?_) (fun (c1 : (kShr p0 p1) &&& 1 = 1) => ?_)
  · skip
    refine lv_iconst (v := 0) hx hb dX7_has_13 (by decide) ?_
    have er : r_X7_has p0 p1 = 0 := by rw [r_X7_has, if_neg c1]
    exact k_zret kx hK hP hD hS (u := ()) rfl er.symm kb0 dX7_has_14
  · skip
    refine lv_iconst (v := 1) hx hb dX7_has_9 (by decide) ?_
    refine lv_goto (tgt := 14) hx hb dX7_has_10 (by decide) ?_
    have er : r_X7_has p0 p1 = 1 := by rw [r_X7_has, if_pos c1]
    exact k_zret kx hK hP hD hS (u := ()) rfl er.symm kb1 dX7_has_14
theorem kbr_X7_has (p0 : Int32) (p1 : Int32) : kb (r_X7_has p0 p1) := by
  unfold r_X7_has
  repeat' split
  all_goals first | exact kb0 | exact kb1

def l_X7_ones_1_r (p0 : Int32) : Nat → Nat → Int32 → Int32
  | 0, j1, v_1 => v_1
  | n1 + 1, j1, v_1 => l_X7_ones_1_r p0 n1 (j1 + 1) (v_1 + ((kShr p0 (nI j1)) &&& 1))
def r_X7_ones (p0 : Int32) : Int32 := l_X7_ones_1_r p0 12 0 0
set_option maxHeartbeats 4000000 in
set_option maxRecDepth 100000 in
theorem c_X7_ones (l : Launch) (G : kG) (p0 : Int32) : cG l G yX7_ones cX7_ones 3 (some .int) 0 [.int p0] ([]) (qI G (fun (r : Int32) (_ : Unit) => r = r_X7_ones p0) (fun _ => [])) := by
  refine kintro (by decide) (Nat.le_of_ble_eq_true rfl) ?_
  intro p e s m args below meth c A ls kx hK hP hD hS hA hl
  have kx : kX p s m args meth c cX7_ones 3 (some .int) RX7 := kx
  have hx := kx.1
  have hb := kx.2.1
  have hown := kx.2.2.2.2.1
  have ht := kx.2.2.2.2.2.2
  have hl : lv_has ls 3 [(0, .int p0)] := hl
  refine lv_iconst (v := 0) hx hb dX7_ones_0 (by decide) ?_
  refine lv_istore_n (lv' := [(1, .int 0), (0, .int p0)]) hx hb dX7_ones_1 rfl hl (by decide) rfl (fun ls1 hl1 => ?_)
  refine lv_iconst (v := 0) hx hb dX7_ones_2 (by decide) ?_
  refine lv_istore_n (lv' := [(2, .int 0), (1, .int 0), (0, .int p0)]) hx hb dX7_ones_3 rfl hl1 (by decide) rfl (fun ls2 hl2 => ?_)
  have lp1 : ∀ (n1 j1 : Nat) (v_1 : Int32), j1 + n1 = 12 → (hr_1 : r_X7_ones p0 = l_X7_ones_1_r p0 n1 j1 v_1) → ∀ (H : Heap) (locs : List Loc) (ls : Array Slot), va_P G.1 vwCl ([]) H → va_D A ([]) → va_S A s.heap H locs → lv_has ls 3 [(0, .int p0), (1, .int v_1), (2, .int (nI j1))] → W p l e (kr 0) s m args below meth c H locs 0 0 (MQ below (qI G (fun (r : Int32) (_ : Unit) => r = r_X7_ones p0) (fun _ => []) A) args s 0 0 A) (F0 m 4 ls []) := by
    intro n1
    induction n1 with
    | zero =>
      intro j1 v_1 hj1 hr_1 H3 locs3 ls3 hP3 hD3 hS3 hl3
      refine lv_iload_n hx hb dX7_ones_4 rfl (lv_at hl3 2 rfl) ?_
      refine lv_bipush (v := 12) hx hb dX7_ones_5 (by decide) ?_
      refine lv_icmp_ge (x := nI j1) (y := 12) (tgt := 24) hx hb dX7_ones_7 (by decide) (fun (c1 : 12 ≤ nI j1) => ?_) (fun (c1 : ¬ (12 ≤ nI j1)) => absurd (kle_z rfl hj1) c1)
      refine lv_iload_n hx hb dX7_ones_24 rfl (lv_at hl3 1 rfl) ?_
      have er : r_X7_ones p0 = v_1 := by rw [hr_1, l_X7_ones_1_r]
      exact k_iret kx hK hP3 hD3 hS3 (u := ()) rfl er.symm dX7_ones_25
    | succ n1 ih1 =>
      intro j1 v_1 hj1 hr_1 H3 locs3 ls3 hP3 hD3 hS3 hl3
      refine lv_iload_n hx hb dX7_ones_4 rfl (lv_at hl3 2 rfl) ?_
      refine lv_bipush (v := 12) hx hb dX7_ones_5 (by decide) ?_
      refine lv_icmp_ge (x := nI j1) (y := 12) (tgt := 24) hx hb dX7_ones_7 (by decide) (fun (c2 : 12 ≤ nI j1) => absurd c2 (kle_s rfl hj1 (by decide))) (fun (c2 : ¬ (12 ≤ nI j1)) => ?_)
      refine lv_iload_n hx hb dX7_ones_10 rfl (lv_at hl3 1 rfl) ?_
      refine lv_iload_n hx hb dX7_ones_11 rfl (lv_at hl3 0 rfl) ?_
      refine lv_iload_n hx hb dX7_ones_12 rfl (lv_at hl3 2 rfl) ?_
      refine lv_ishr hx hb dX7_ones_13 ?_
      refine k_top (y := kShr p0 (nI j1)) rfl ?_
      refine lv_iconst (v := 1) hx hb dX7_ones_14 (by decide) ?_
      refine lv_iand hx hb dX7_ones_15 ?_
      refine lv_iadd hx hb dX7_ones_16 ?_
      refine lv_istore_n (lv' := [(1, .int (v_1 + ((kShr p0 (nI j1)) &&& 1))), (0, .int p0), (2, .int (nI j1))]) hx hb dX7_ones_17 rfl hl3 (by decide) rfl (fun ls4 hl4 => ?_)
      refine lv_iinc (v := nI (j1 + 1)) (lv' := [(2, .int (nI (j1 + 1))), (1, .int (v_1 + ((kShr p0 (nI j1)) &&& 1))), (0, .int p0)]) hx hb dX7_ones_18 hl4 (k := 2) rfl (nI_1 j1) (by decide) rfl (fun ls5 hl5 => ?_)
      refine lv_goto (tgt := 4) hx hb dX7_ones_21 (by decide) ?_
      have gr : r_X7_ones p0 = l_X7_ones_1_r p0 n1 (j1 + 1) (v_1 + ((kShr p0 (nI j1)) &&& 1)) := by rw [hr_1, l_X7_ones_1_r]
      exact ih1 (j1 + 1) (v_1 + ((kShr p0 (nI j1)) &&& 1)) (by omega) gr _ _ _ hP3 hD3 hS3 (lv_sub hl5 [2, 1, 0] rfl)
  have gr : r_X7_ones p0 = l_X7_ones_1_r p0 12 0 0 := by rw [r_X7_ones]
  exact lp1 12 0 0 (by omega) gr _ _ _ hP hD hS (lv_sub hl2 [2, 1, 0] rfl)

def l_X7_power_1_r (p0 : Int32) : Nat → Nat → Int32 → Int32
  | 0, j1, v_1 => v_1
  | n1 + 1, j1, v_1 => l_X7_power_1_r p0 n1 (j1 + 1) (v_1 * p0)
def r_X7_power (p0 : Int32) (p1 : Int32) : Int32 := l_X7_power_1_r p0 p1.toNatClampNeg 0 1
set_option maxHeartbeats 4000000 in
set_option maxRecDepth 100000 in
theorem c_X7_power (l : Launch) (G : kG) (p0 : Int32) (p1 : Int32) : cG l G yX7_power cX7_power 4 (some .int) 0 [.int p0, .int p1] ([]) (qI G (fun (r : Int32) (_ : Unit) => r = r_X7_power p0 p1) (fun _ => [])) := by
  refine kintro (by decide) (Nat.le_of_ble_eq_true rfl) ?_
  intro p e s m args below meth c A ls kx hK hP hD hS hA hl
  have kx : kX p s m args meth c cX7_power 4 (some .int) RX7 := kx
  have hx := kx.1
  have hb := kx.2.1
  have hown := kx.2.2.2.2.1
  have ht := kx.2.2.2.2.2.2
  have hl : lv_has ls 4 [(0, .int p0), (1, .int p1)] := hl
  refine lv_iconst (v := 1) hx hb dX7_power_0 (by decide) ?_
  refine lv_istore_n (lv' := [(2, .int 1), (0, .int p0), (1, .int p1)]) hx hb dX7_power_1 rfl hl (by decide) rfl (fun ls1 hl1 => ?_)
  refine lv_iconst (v := 0) hx hb dX7_power_2 (by decide) ?_
  refine lv_istore_n (lv' := [(3, .int 0), (2, .int 1), (0, .int p0), (1, .int p1)]) hx hb dX7_power_3 rfl hl1 (by decide) rfl (fun ls2 hl2 => ?_)
  have lp1 : ∀ (n1 j1 : Nat) (v_1 : Int32), j1 + n1 = p1.toNatClampNeg → (hr_1 : r_X7_power p0 p1 = l_X7_power_1_r p0 n1 j1 v_1) → ∀ (H : Heap) (locs : List Loc) (ls : Array Slot), va_P G.1 vwCl ([]) H → va_D A ([]) → va_S A s.heap H locs → lv_has ls 4 [(0, .int p0), (1, .int p1), (2, .int v_1), (3, .int (nI j1))] → W p l e (kr 0) s m args below meth c H locs 0 0 (MQ below (qI G (fun (r : Int32) (_ : Unit) => r = r_X7_power p0 p1) (fun _ => []) A) args s 0 0 A) (F0 m 4 ls []) := by
    intro n1
    induction n1 with
    | zero =>
      intro j1 v_1 hj1 hr_1 H3 locs3 ls3 hP3 hD3 hS3 hl3
      refine lv_iload_n hx hb dX7_power_4 rfl (lv_at hl3 3 rfl) ?_
      refine lv_iload_n hx hb dX7_power_5 rfl (lv_at hl3 1 rfl) ?_
      refine lv_icmp_ge (x := nI j1) (y := p1) (tgt := 19) hx hb dX7_power_6 (by decide) (fun (c1 : p1 ≤ nI j1) => ?_) (fun (c1 : ¬ (p1 ≤ nI j1)) => absurd (krun_z hj1) c1)
      refine lv_iload_n hx hb dX7_power_19 rfl (lv_at hl3 2 rfl) ?_
      have er : r_X7_power p0 p1 = v_1 := by rw [hr_1, l_X7_power_1_r]
      exact k_iret kx hK hP3 hD3 hS3 (u := ()) rfl er.symm dX7_power_20
    | succ n1 ih1 =>
      intro j1 v_1 hj1 hr_1 H3 locs3 ls3 hP3 hD3 hS3 hl3
      refine lv_iload_n hx hb dX7_power_4 rfl (lv_at hl3 3 rfl) ?_
      refine lv_iload_n hx hb dX7_power_5 rfl (lv_at hl3 1 rfl) ?_
      refine lv_icmp_ge (x := nI j1) (y := p1) (tgt := 19) hx hb dX7_power_6 (by decide) (fun (c2 : p1 ≤ nI j1) => absurd c2 (krun_s hj1)) (fun (c2 : ¬ (p1 ≤ nI j1)) => ?_)
      refine lv_iload_n hx hb dX7_power_9 rfl (lv_at hl3 2 rfl) ?_
      refine lv_iload_n hx hb dX7_power_10 rfl (lv_at hl3 0 rfl) ?_
      refine lv_imul hx hb dX7_power_11 ?_
      refine lv_istore_n (lv' := [(2, .int (v_1 * p0)), (0, .int p0), (1, .int p1), (3, .int (nI j1))]) hx hb dX7_power_12 rfl hl3 (by decide) rfl (fun ls4 hl4 => ?_)
      refine lv_iinc (v := nI (j1 + 1)) (lv' := [(3, .int (nI (j1 + 1))), (2, .int (v_1 * p0)), (0, .int p0), (1, .int p1)]) hx hb dX7_power_13 hl4 (k := 3) rfl (nI_1 j1) (by decide) rfl (fun ls5 hl5 => ?_)
      refine lv_goto (tgt := 4) hx hb dX7_power_16 (by decide) ?_
      have gr : r_X7_power p0 p1 = l_X7_power_1_r p0 n1 (j1 + 1) (v_1 * p0) := by rw [hr_1, l_X7_power_1_r]
      exact ih1 (j1 + 1) (v_1 * p0) (by omega) gr _ _ _ hP3 hD3 hS3 (lv_sub hl5 [2, 3, 1, 0] rfl)
  have gr : r_X7_power p0 p1 = l_X7_power_1_r p0 p1.toNatClampNeg 0 1 := by rw [r_X7_power]
  exact lp1 p1.toNatClampNeg 0 1 (by omega) gr _ _ _ hP hD hS (lv_sub hl2 [2, 3, 1, 0] rfl)

def l_X7_longPower_1_r (p0 : Int64) : Nat → Nat → Int64 → Int64
  | 0, j1, v_1 => v_1
  | n1 + 1, j1, v_1 => l_X7_longPower_1_r p0 n1 (j1 + 1) (v_1 * p0)
def r_X7_longPower (p0 : Int64) (p1 : Int32) : Int64 := l_X7_longPower_1_r p0 p1.toNatClampNeg 0 1
set_option maxHeartbeats 4000000 in
set_option maxRecDepth 100000 in
theorem c_X7_longPower (l : Launch) (G : kG) (p0 : Int64) (p1 : Int32) : cG l G yX7_longPower cX7_longPower 6 (some .long) 0 [.long p0, .int p1] ([]) (qL G (fun (r : Int64) (_ : Unit) => r = r_X7_longPower p0 p1) (fun _ => [])) := by
  refine kintro (by decide) (Nat.le_of_ble_eq_true rfl) ?_
  intro p e s m args below meth c A ls kx hK hP hD hS hA hl
  have kx : kX p s m args meth c cX7_longPower 6 (some .long) RX7 := kx
  have hx := kx.1
  have hb := kx.2.1
  have hown := kx.2.2.2.2.1
  have ht := kx.2.2.2.2.2.2
  have hl : lv_has ls 6 [(0, .long p0), (2, .int p1)] := hl
  refine lv_lconst (v := 1) hx hb dX7_longPower_0 (by decide) ?_
  refine lv_lstore_n (lv' := [(3, .long 1), (0, .long p0), (2, .int p1)]) hx hb dX7_longPower_1 rfl hl (by decide) rfl (fun ls1 hl1 => ?_)
  refine lv_iconst (v := 0) hx hb dX7_longPower_2 (by decide) ?_
  refine lv_istore (lv' := [(5, .int 0), (3, .long 1), (0, .long p0), (2, .int p1)]) hx hb dX7_longPower_3 hl1 (by decide) rfl (fun ls2 hl2 => ?_)
  have lp1 : ∀ (n1 j1 : Nat) (v_1 : Int64), j1 + n1 = p1.toNatClampNeg → (hr_1 : r_X7_longPower p0 p1 = l_X7_longPower_1_r p0 n1 j1 v_1) → ∀ (H : Heap) (locs : List Loc) (ls : Array Slot), va_P G.1 vwCl ([]) H → va_D A ([]) → va_S A s.heap H locs → lv_has ls 6 [(0, .long p0), (2, .int p1), (3, .long v_1), (5, .int (nI j1))] → W p l e (kr 0) s m args below meth c H locs 0 0 (MQ below (qL G (fun (r : Int64) (_ : Unit) => r = r_X7_longPower p0 p1) (fun _ => []) A) args s 0 0 A) (F0 m 5 ls []) := by
    intro n1
    induction n1 with
    | zero =>
      intro j1 v_1 hj1 hr_1 H3 locs3 ls3 hP3 hD3 hS3 hl3
      refine lv_iload hx hb dX7_longPower_5 (lv_at hl3 3 rfl) ?_
      refine lv_iload_n hx hb dX7_longPower_7 rfl (lv_at hl3 1 rfl) ?_
      refine lv_icmp_ge (x := nI j1) (y := p1) (tgt := 21) hx hb dX7_longPower_8 (by decide) (fun (c1 : p1 ≤ nI j1) => ?_) (fun (c1 : ¬ (p1 ≤ nI j1)) => absurd (krun_z hj1) c1)
      refine lv_lload_n hx hb dX7_longPower_21 rfl (lv_at hl3 2 rfl) ?_
      have er : r_X7_longPower p0 p1 = v_1 := by rw [hr_1, l_X7_longPower_1_r]
      exact k_lret kx hK hP3 hD3 hS3 (u := ()) rfl er.symm dX7_longPower_22
    | succ n1 ih1 =>
      intro j1 v_1 hj1 hr_1 H3 locs3 ls3 hP3 hD3 hS3 hl3
      refine lv_iload hx hb dX7_longPower_5 (lv_at hl3 3 rfl) ?_
      refine lv_iload_n hx hb dX7_longPower_7 rfl (lv_at hl3 1 rfl) ?_
      refine lv_icmp_ge (x := nI j1) (y := p1) (tgt := 21) hx hb dX7_longPower_8 (by decide) (fun (c2 : p1 ≤ nI j1) => absurd c2 (krun_s hj1)) (fun (c2 : ¬ (p1 ≤ nI j1)) => ?_)
      refine lv_lload_n hx hb dX7_longPower_11 rfl (lv_at hl3 2 rfl) ?_
      refine lv_lload_n hx hb dX7_longPower_12 rfl (lv_at hl3 0 rfl) ?_
      refine lv_lmul hx hb dX7_longPower_13 ?_
      refine lv_lstore_n (lv' := [(3, .long (v_1 * p0)), (0, .long p0), (2, .int p1), (5, .int (nI j1))]) hx hb dX7_longPower_14 rfl hl3 (by decide) rfl (fun ls4 hl4 => ?_)
      refine lv_iinc (v := nI (j1 + 1)) (lv' := [(5, .int (nI (j1 + 1))), (3, .long (v_1 * p0)), (0, .long p0), (2, .int p1)]) hx hb dX7_longPower_15 hl4 (k := 3) rfl (nI_1 j1) (by decide) rfl (fun ls5 hl5 => ?_)
      refine lv_goto (tgt := 5) hx hb dX7_longPower_18 (by decide) ?_
      have gr : r_X7_longPower p0 p1 = l_X7_longPower_1_r p0 n1 (j1 + 1) (v_1 * p0) := by rw [hr_1, l_X7_longPower_1_r]
      exact ih1 (j1 + 1) (v_1 * p0) (by omega) gr _ _ _ hP3 hD3 hS3 (lv_sub hl5 [2, 3, 1, 0] rfl)
  have gr : r_X7_longPower p0 p1 = l_X7_longPower_1_r p0 p1.toNatClampNeg 0 1 := by rw [r_X7_longPower]
  exact lp1 p1.toNatClampNeg 0 1 (by omega) gr _ _ _ hP hD hS (lv_sub hl2 [2, 3, 1, 0] rfl)

def r_X7_max (p0 : Int32) (p1 : Int32) : Int32 := if p0 ≤ p1 then p1 else p0
set_option maxHeartbeats 4000000 in
set_option maxRecDepth 100000 in
theorem c_X7_max (l : Launch) (G : kG) (p0 : Int32) (p1 : Int32) : cG l G yX7_max cX7_max 2 (some .int) 0 [.int p0, .int p1] ([]) (qI G (fun (r : Int32) (_ : Unit) => r = r_X7_max p0 p1) (fun _ => [])) := by
  refine kintro (by decide) (Nat.le_of_ble_eq_true rfl) ?_
  intro p e s m args below meth c A ls kx hK hP hD hS hA hl
  have kx : kX p s m args meth c cX7_max 2 (some .int) RX7 := kx
  have hx := kx.1
  have hb := kx.2.1
  have hown := kx.2.2.2.2.1
  have ht := kx.2.2.2.2.2.2
  have hl : lv_has ls 2 [(0, .int p0), (1, .int p1)] := hl
  refine lv_iload_n hx hb dX7_max_0 rfl (lv_at hl 0 rfl) ?_
  refine lv_iload_n hx hb dX7_max_1 rfl (lv_at hl 1 rfl) ?_
  refine lv_icmp_le (x := p0) (y := p1) (tgt := 9) hx hb dX7_max_2 (by decide) (fun (c1 : p0 ≤ p1) => ?_) (fun (c1 : ¬ (p0 ≤ p1)) => ?_)
  · skip
    refine lv_iload_n hx hb dX7_max_9 rfl (lv_at hl 1 rfl) ?_
    have er : r_X7_max p0 p1 = p1 := by rw [r_X7_max, if_pos c1]
    exact k_iret kx hK hP hD hS (u := ()) rfl er.symm dX7_max_10
  · skip
    refine lv_iload_n hx hb dX7_max_5 rfl (lv_at hl 0 rfl) ?_
    refine lv_goto (tgt := 10) hx hb dX7_max_6 (by decide) ?_
    have er : r_X7_max p0 p1 = p0 := by rw [r_X7_max, if_neg c1]
    exact k_iret kx hK hP hD hS (u := ()) rfl er.symm dX7_max_10

def r_X7_min (p0 : Int32) (p1 : Int32) : Int32 := if p1 ≤ p0 then p1 else p0
set_option maxHeartbeats 4000000 in
set_option maxRecDepth 100000 in
theorem c_X7_min (l : Launch) (G : kG) (p0 : Int32) (p1 : Int32) : cG l G yX7_min cX7_min 2 (some .int) 0 [.int p0, .int p1] ([]) (qI G (fun (r : Int32) (_ : Unit) => r = r_X7_min p0 p1) (fun _ => [])) := by
  refine kintro (by decide) (Nat.le_of_ble_eq_true rfl) ?_
  intro p e s m args below meth c A ls kx hK hP hD hS hA hl
  have kx : kX p s m args meth c cX7_min 2 (some .int) RX7 := kx
  have hx := kx.1
  have hb := kx.2.1
  have hown := kx.2.2.2.2.1
  have ht := kx.2.2.2.2.2.2
  have hl : lv_has ls 2 [(0, .int p0), (1, .int p1)] := hl
  refine lv_iload_n hx hb dX7_min_0 rfl (lv_at hl 0 rfl) ?_
  refine lv_iload_n hx hb dX7_min_1 rfl (lv_at hl 1 rfl) ?_
  refine lv_icmp_ge (x := p0) (y := p1) (tgt := 9) hx hb dX7_min_2 (by decide) (fun (c1 : p1 ≤ p0) => ?_) (fun (c1 : ¬ (p1 ≤ p0)) => ?_)
  · skip
    refine lv_iload_n hx hb dX7_min_9 rfl (lv_at hl 1 rfl) ?_
    have er : r_X7_min p0 p1 = p1 := by rw [r_X7_min, if_pos c1]
    exact k_iret kx hK hP hD hS (u := ()) rfl er.symm dX7_min_10
  · skip
    refine lv_iload_n hx hb dX7_min_5 rfl (lv_at hl 0 rfl) ?_
    refine lv_goto (tgt := 10) hx hb dX7_min_6 (by decide) ?_
    have er : r_X7_min p0 p1 = p0 := by rw [r_X7_min, if_neg c1]
    exact k_iret kx hK hP hD hS (u := ()) rfl er.symm dX7_min_10

def r_X7_noEnd (p0 : Int32) : Int32 := if (r_X7_in p0.toInt64 0 1) = 0 then 1 else 0
set_option maxHeartbeats 4000000 in
set_option maxRecDepth 100000 in
theorem c_X7_noEnd (l : Launch) (G : kG) (p0 : Int32) : cG l G yX7_noEnd cX7_noEnd 1 (some .boolean) 1 [.int p0] ([]) (qI G (fun (r : Int32) (_ : Unit) => r = r_X7_noEnd p0) (fun _ => [])) := by
  refine kintro (by decide) (Nat.le_of_ble_eq_true rfl) ?_
  intro p e s m args below meth c A ls kx hK hP hD hS hA hl
  have kx : kX p s m args meth c cX7_noEnd 1 (some .boolean) RX7 := kx
  have hx := kx.1
  have hb := kx.2.1
  have hown := kx.2.2.2.2.1
  have ht := kx.2.2.2.2.2.2
  have hl : lv_has ls 1 [(0, .int p0)] := hl
  refine lv_iload_n hx hb dX7_noEnd_0 rfl (lv_at hl 0 rfl) ?_
  refine lv_i2l (v := p0.toInt64) hx hb dX7_noEnd_1 rfl ?_
  refine lv_lconst (v := 0) hx hb dX7_noEnd_2 (by decide) ?_
  refine lv_lconst (v := 1) hx hb dX7_noEnd_3 (by decide) ?_
  refine k_calli (kRunS (As := [.long p0.toInt64, .long 0, .long 1]) (rest := []) kx (c_X7_in l G p0.toInt64 0 1) q_740 q_738 q_36 q_739 nX7_in ⟨Nat.le_of_ble_eq_true rfl, Nat.le_of_ble_eq_true rfl⟩ hK hP hD (kCtx_nil _) rfl hl.1 (Nat.le_of_ble_eq_true rfl) dX7_noEnd_4 ⟨Nat.zero_le _, Nat.zero_le _⟩) hP hD hS hA (kCtx_nil _) (fun _ => rfl) (fun r1 _ H1 locs1 hw hP1 hD1 hS1 => ?_)
  have hr1 : r_X7_in p0.toInt64 0 1 = r1 := (show r1 = r_X7_in p0.toInt64 0 1 from hw).symm
  have hP2 : va_P G.1 vwCl ([]) H1 := hP1
  have hD3 : va_D A ([]) := hD1
  refine lv_if_ne (x := r1) (tgt := 14) hx hb dX7_noEnd_7 (by decide) (fun (c2 : ¬ (r1 = 0)) => ?_) (fun (c2 : r1 = 0) => ?_)
  · skip
    refine lv_iconst (v := 0) hx hb dX7_noEnd_14 (by decide) ?_
    have er : r_X7_noEnd p0 = 0 := by rw [r_X7_noEnd]; (try rw [hr1]); rw [if_neg c2]
    exact k_zret kx hK hP2 hD3 hS1 (u := ()) rfl er.symm kb0 dX7_noEnd_15
  · skip
    refine lv_iconst (v := 1) hx hb dX7_noEnd_10 (by decide) ?_
    refine lv_goto (tgt := 15) hx hb dX7_noEnd_11 (by decide) ?_
    have er : r_X7_noEnd p0 = 1 := by rw [r_X7_noEnd]; (try rw [hr1]); rw [if_pos c2]
    exact k_zret kx hK hP2 hD3 hS1 (u := ()) rfl er.symm kb1 dX7_noEnd_15
theorem kbr_X7_noEnd (p0 : Int32) : kb (r_X7_noEnd p0) := by
  unfold r_X7_noEnd
  repeat' split
  all_goals first | exact kb0 | exact kb1

def l_X7_layFirst_1_f : Nat → Nat → (Nat → Int32) → Nat → Int32
  | 0, j1, f_1 => upd (upd (upd (upd (upd (upd (upd (upd (upd (upd (upd (upd (upd (upd (upd (upd (upd (upd f_1 0 1) 1 1) 2 1) 3 1) 4 1) 12 1) 13 1) 14 1) 32 1) 16 1) 17 1) 18 1) 19 1) 20 1) 28 1) 29 1) 30 1) 33 1
  | n1 + 1, j1, f_1 => l_X7_layFirst_1_f n1 (j1 + 1) (upd f_1 j1 0)
def s_X7_layFirst_f (f : Nat → Int32) : Nat → Int32 := l_X7_layFirst_1_f 55 0 f
set_option maxHeartbeats 4000000 in
set_option maxRecDepth 100000 in
theorem c_X7_layFirst (l : Launch) (G : kG) (f : Nat → Int32) (h0 : Nat) : cG l G yX7_layFirst cX7_layFirst 3 none 0 [.ref h0] ([(h0, .inl (G.2.1, 55, .inl f))]) (qV G (fun u : (Nat → Int32) => u = s_X7_layFirst_f f) (fun u => [(h0, .inl (G.2.1, 55, .inl u))])) := by
  refine kintro (by decide) (Nat.le_of_ble_eq_true rfl) ?_
  intro p e s m args below meth c A ls kx hK hP hD hS hA hl
  have kx : kX p s m args meth c cX7_layFirst 3 none RX7 := kx
  have hx := kx.1
  have hb := kx.2.1
  have hown := kx.2.2.2.2.1
  have ht := kx.2.2.2.2.2.2
  have hl : lv_has ls 3 [(0, .ref h0)] := hl
  refine lv_iconst (v := 0) hx hb dX7_layFirst_0 (by decide) ?_
  refine lv_istore_n (lv' := [(1, .int 0), (0, .ref h0)]) hx hb dX7_layFirst_1 rfl hl (by decide) rfl (fun ls1 hl1 => ?_)
  have lp1 : ∀ (n1 j1 : Nat) (f_1 : Nat → Int32), j1 + n1 = 55 → (hf_1 : s_X7_layFirst_f f = l_X7_layFirst_1_f n1 j1 f_1) → ∀ (H : Heap) (locs : List Loc) (ls : Array Slot), va_P G.1 vwCl ([(h0, .inl (G.2.1, 55, .inl f_1))]) H → va_D A ([(h0, .inl (G.2.1, 55, .inl f_1))]) → va_S A s.heap H locs → lv_has ls 3 [(0, .ref h0), (1, .int (nI j1))] → W p l e (kr 0) s m args below meth c H locs 0 0 (MQ below (qV G (fun u : (Nat → Int32) => u = s_X7_layFirst_f f) (fun u => [(h0, .inl (G.2.1, 55, .inl u))]) A) args s 0 0 A) (F0 m 2 ls []) := by
    intro n1
    induction n1 with
    | zero =>
      intro j1 f_1 hj1 hf_1 H2 locs2 ls2 hP2 hD2 hS2 hl2
      refine lv_iload_n hx hb dX7_layFirst_2 rfl (lv_at hl2 1 rfl) ?_
      refine lv_bipush (v := 55) hx hb dX7_layFirst_3 (by decide) ?_
      refine lv_icmp_ge (x := nI j1) (y := 55) (tgt := 18) hx hb dX7_layFirst_5 (by decide) (fun (c1 : 55 ≤ nI j1) => ?_) (fun (c1 : ¬ (55 ≤ nI j1)) => absurd (kle_z rfl hj1) c1)
      refine lv_iconst (v := 0) hx hb dX7_layFirst_18 (by decide) ?_
      refine lv_istore_n (lv' := [(1, .int 0), (0, .ref h0)]) hx hb dX7_layFirst_19 rfl hl2 (by decide) rfl (fun ls3 hl3 => ?_)
      refine lv_iload_n hx hb dX7_layFirst_20 rfl (lv_at hl3 0 rfl) ?_
      refine lv_iconst (v := 2) hx hb dX7_layFirst_21 (by decide) ?_
      refine lv_icmp_ge (x := 0) (y := 2) (tgt := 90) hx hb dX7_layFirst_22 (by decide) (fun (c2 : 2 ≤ 0) => absurd c2 (by decide)) (fun (c2 : ¬ (2 ≤ 0)) => ?_)
      refine lv_iconst (v := 0) hx hb dX7_layFirst_25 (by decide) ?_
      refine lv_istore_n (lv' := [(2, .int 0), (1, .int 0), (0, .ref h0)]) hx hb dX7_layFirst_26 rfl hl3 (by decide) rfl (fun ls4 hl4 => ?_)
      refine lv_iload_n hx hb dX7_layFirst_27 rfl (lv_at hl4 0 rfl) ?_
      refine lv_iconst (v := 5) hx hb dX7_layFirst_28 (by decide) ?_
      refine lv_icmp_ge (x := 0) (y := 5) (tgt := 47) hx hb dX7_layFirst_29 (by decide) (fun (c3 : 5 ≤ 0) => absurd c3 (by decide)) (fun (c3 : ¬ (5 ≤ 0)) => ?_)
      refine lv_aload_n hx hb dX7_layFirst_32 rfl (lv_at hl4 2 rfl) ?_
      refine lv_bipush (v := 16) hx hb dX7_layFirst_33 (by decide) ?_
      refine lv_iload_n hx hb dX7_layFirst_35 rfl (lv_at hl4 1 rfl) ?_
      refine lv_imul hx hb dX7_layFirst_36 ?_
      refine k_top (y := 0) (by decide +kernel) ?_
      refine lv_iload_n hx hb dX7_layFirst_37 rfl (lv_at hl4 0 rfl) ?_
      refine lv_iadd hx hb dX7_layFirst_38 ?_
      refine k_top (y := 0) (by decide +kernel) ?_
      refine lv_iconst (v := 1) hx hb dX7_layFirst_39 (by decide) ?_
      refine k_iast kx hK hP2 hD2 hS2 0 rfl 0 rfl (by decide) (by decide) dX7_layFirst_40 (fun H5 locs5 hP5 hD5 hS5 => ?_)
      have hP6 : va_P G.1 vwCl ([(h0, .inl (G.2.1, 55, .inl (upd f_1 0 1)))]) H5 := hP5
      have hD7 : va_D A ([(h0, .inl (G.2.1, 55, .inl (upd f_1 0 1)))]) := hD5
      refine lv_iinc (v := 1) (lv' := [(2, .int 1), (1, .int 0), (0, .ref h0)]) hx hb dX7_layFirst_41 hl4 (k := 0) rfl (by decide +kernel) (by decide) rfl (fun ls8 hl8 => ?_)
      refine lv_goto (tgt := 27) hx hb dX7_layFirst_44 (by decide) ?_
      refine lv_iload_n hx hb dX7_layFirst_27 rfl (lv_at hl8 0 rfl) ?_
      refine lv_iconst (v := 5) hx hb dX7_layFirst_28 (by decide) ?_
      refine lv_icmp_ge (x := 1) (y := 5) (tgt := 47) hx hb dX7_layFirst_29 (by decide) (fun (c4 : 5 ≤ 1) => absurd c4 (by decide)) (fun (c4 : ¬ (5 ≤ 1)) => ?_)
      refine lv_aload_n hx hb dX7_layFirst_32 rfl (lv_at hl8 2 rfl) ?_
      refine lv_bipush (v := 16) hx hb dX7_layFirst_33 (by decide) ?_
      refine lv_iload_n hx hb dX7_layFirst_35 rfl (lv_at hl8 1 rfl) ?_
      refine lv_imul hx hb dX7_layFirst_36 ?_
      refine k_top (y := 0) (by decide +kernel) ?_
      refine lv_iload_n hx hb dX7_layFirst_37 rfl (lv_at hl8 0 rfl) ?_
      refine lv_iadd hx hb dX7_layFirst_38 ?_
      refine k_top (y := 1) (by decide +kernel) ?_
      refine lv_iconst (v := 1) hx hb dX7_layFirst_39 (by decide) ?_
      refine k_iast kx hK hP6 hD7 hS5 0 rfl 1 rfl (by decide) (by decide) dX7_layFirst_40 (fun H9 locs9 hP9 hD9 hS9 => ?_)
      have hP10 : va_P G.1 vwCl ([(h0, .inl (G.2.1, 55, .inl (upd (upd f_1 0 1) 1 1)))]) H9 := hP9
      have hD11 : va_D A ([(h0, .inl (G.2.1, 55, .inl (upd (upd f_1 0 1) 1 1)))]) := hD9
      refine lv_iinc (v := 2) (lv' := [(2, .int 2), (1, .int 0), (0, .ref h0)]) hx hb dX7_layFirst_41 hl8 (k := 0) rfl (by decide +kernel) (by decide) rfl (fun ls12 hl12 => ?_)
      refine lv_goto (tgt := 27) hx hb dX7_layFirst_44 (by decide) ?_
      refine lv_iload_n hx hb dX7_layFirst_27 rfl (lv_at hl12 0 rfl) ?_
      refine lv_iconst (v := 5) hx hb dX7_layFirst_28 (by decide) ?_
      refine lv_icmp_ge (x := 2) (y := 5) (tgt := 47) hx hb dX7_layFirst_29 (by decide) (fun (c5 : 5 ≤ 2) => absurd c5 (by decide)) (fun (c5 : ¬ (5 ≤ 2)) => ?_)
      refine lv_aload_n hx hb dX7_layFirst_32 rfl (lv_at hl12 2 rfl) ?_
      refine lv_bipush (v := 16) hx hb dX7_layFirst_33 (by decide) ?_
      refine lv_iload_n hx hb dX7_layFirst_35 rfl (lv_at hl12 1 rfl) ?_
      refine lv_imul hx hb dX7_layFirst_36 ?_
      refine k_top (y := 0) (by decide +kernel) ?_
      refine lv_iload_n hx hb dX7_layFirst_37 rfl (lv_at hl12 0 rfl) ?_
      refine lv_iadd hx hb dX7_layFirst_38 ?_
      refine k_top (y := 2) (by decide +kernel) ?_
      refine lv_iconst (v := 1) hx hb dX7_layFirst_39 (by decide) ?_
      refine k_iast kx hK hP10 hD11 hS9 0 rfl 2 rfl (by decide) (by decide) dX7_layFirst_40 (fun H13 locs13 hP13 hD13 hS13 => ?_)
      have hP14 : va_P G.1 vwCl ([(h0, .inl (G.2.1, 55, .inl (upd (upd (upd f_1 0 1) 1 1) 2 1)))]) H13 := hP13
      have hD15 : va_D A ([(h0, .inl (G.2.1, 55, .inl (upd (upd (upd f_1 0 1) 1 1) 2 1)))]) := hD13
      refine lv_iinc (v := 3) (lv' := [(2, .int 3), (1, .int 0), (0, .ref h0)]) hx hb dX7_layFirst_41 hl12 (k := 0) rfl (by decide +kernel) (by decide) rfl (fun ls16 hl16 => ?_)
      refine lv_goto (tgt := 27) hx hb dX7_layFirst_44 (by decide) ?_
      refine lv_iload_n hx hb dX7_layFirst_27 rfl (lv_at hl16 0 rfl) ?_
      refine lv_iconst (v := 5) hx hb dX7_layFirst_28 (by decide) ?_
      refine lv_icmp_ge (x := 3) (y := 5) (tgt := 47) hx hb dX7_layFirst_29 (by decide) (fun (c6 : 5 ≤ 3) => absurd c6 (by decide)) (fun (c6 : ¬ (5 ≤ 3)) => ?_)
      refine lv_aload_n hx hb dX7_layFirst_32 rfl (lv_at hl16 2 rfl) ?_
      refine lv_bipush (v := 16) hx hb dX7_layFirst_33 (by decide) ?_
      refine lv_iload_n hx hb dX7_layFirst_35 rfl (lv_at hl16 1 rfl) ?_
      refine lv_imul hx hb dX7_layFirst_36 ?_
      refine k_top (y := 0) (by decide +kernel) ?_
      refine lv_iload_n hx hb dX7_layFirst_37 rfl (lv_at hl16 0 rfl) ?_
      refine lv_iadd hx hb dX7_layFirst_38 ?_
      refine k_top (y := 3) (by decide +kernel) ?_
      refine lv_iconst (v := 1) hx hb dX7_layFirst_39 (by decide) ?_
      refine k_iast kx hK hP14 hD15 hS13 0 rfl 3 rfl (by decide) (by decide) dX7_layFirst_40 (fun H17 locs17 hP17 hD17 hS17 => ?_)
      have hP18 : va_P G.1 vwCl ([(h0, .inl (G.2.1, 55, .inl (upd (upd (upd (upd f_1 0 1) 1 1) 2 1) 3 1)))]) H17 := hP17
      have hD19 : va_D A ([(h0, .inl (G.2.1, 55, .inl (upd (upd (upd (upd f_1 0 1) 1 1) 2 1) 3 1)))]) := hD17
      refine lv_iinc (v := 4) (lv' := [(2, .int 4), (1, .int 0), (0, .ref h0)]) hx hb dX7_layFirst_41 hl16 (k := 0) rfl (by decide +kernel) (by decide) rfl (fun ls20 hl20 => ?_)
      refine lv_goto (tgt := 27) hx hb dX7_layFirst_44 (by decide) ?_
      refine lv_iload_n hx hb dX7_layFirst_27 rfl (lv_at hl20 0 rfl) ?_
      refine lv_iconst (v := 5) hx hb dX7_layFirst_28 (by decide) ?_
      refine lv_icmp_ge (x := 4) (y := 5) (tgt := 47) hx hb dX7_layFirst_29 (by decide) (fun (c7 : 5 ≤ 4) => absurd c7 (by decide)) (fun (c7 : ¬ (5 ≤ 4)) => ?_)
      refine lv_aload_n hx hb dX7_layFirst_32 rfl (lv_at hl20 2 rfl) ?_
      refine lv_bipush (v := 16) hx hb dX7_layFirst_33 (by decide) ?_
      refine lv_iload_n hx hb dX7_layFirst_35 rfl (lv_at hl20 1 rfl) ?_
      refine lv_imul hx hb dX7_layFirst_36 ?_
      refine k_top (y := 0) (by decide +kernel) ?_
      refine lv_iload_n hx hb dX7_layFirst_37 rfl (lv_at hl20 0 rfl) ?_
      refine lv_iadd hx hb dX7_layFirst_38 ?_
      refine k_top (y := 4) (by decide +kernel) ?_
      refine lv_iconst (v := 1) hx hb dX7_layFirst_39 (by decide) ?_
      refine k_iast kx hK hP18 hD19 hS17 0 rfl 4 rfl (by decide) (by decide) dX7_layFirst_40 (fun H21 locs21 hP21 hD21 hS21 => ?_)
      have hP22 : va_P G.1 vwCl ([(h0, .inl (G.2.1, 55, .inl (upd (upd (upd (upd (upd f_1 0 1) 1 1) 2 1) 3 1) 4 1)))]) H21 := hP21
      have hD23 : va_D A ([(h0, .inl (G.2.1, 55, .inl (upd (upd (upd (upd (upd f_1 0 1) 1 1) 2 1) 3 1) 4 1)))]) := hD21
      refine lv_iinc (v := 5) (lv' := [(2, .int 5), (1, .int 0), (0, .ref h0)]) hx hb dX7_layFirst_41 hl20 (k := 0) rfl (by decide +kernel) (by decide) rfl (fun ls24 hl24 => ?_)
      refine lv_goto (tgt := 27) hx hb dX7_layFirst_44 (by decide) ?_
      refine lv_iload_n hx hb dX7_layFirst_27 rfl (lv_at hl24 0 rfl) ?_
      refine lv_iconst (v := 5) hx hb dX7_layFirst_28 (by decide) ?_
      refine lv_icmp_ge (x := 5) (y := 5) (tgt := 47) hx hb dX7_layFirst_29 (by decide) (fun (c8 : 5 ≤ 5) => ?_) (fun (c8 : ¬ (5 ≤ 5)) => absurd (by decide) c8)
      refine lv_aload_n hx hb dX7_layFirst_47 rfl (lv_at hl24 2 rfl) ?_
      refine lv_bipush (v := 16) hx hb dX7_layFirst_48 (by decide) ?_
      refine lv_iload_n hx hb dX7_layFirst_50 rfl (lv_at hl24 1 rfl) ?_
      refine lv_imul hx hb dX7_layFirst_51 ?_
      refine k_top (y := 0) (by decide +kernel) ?_
      refine lv_bipush (v := 12) hx hb dX7_layFirst_52 (by decide) ?_
      refine lv_iadd hx hb dX7_layFirst_54 ?_
      refine k_top (y := 12) (by decide +kernel) ?_
      refine lv_iconst (v := 1) hx hb dX7_layFirst_55 (by decide) ?_
      refine k_iast kx hK hP22 hD23 hS21 0 rfl 12 rfl (by decide) (by decide) dX7_layFirst_56 (fun H25 locs25 hP25 hD25 hS25 => ?_)
      have hP26 : va_P G.1 vwCl ([(h0, .inl (G.2.1, 55, .inl (upd (upd (upd (upd (upd (upd f_1 0 1) 1 1) 2 1) 3 1) 4 1) 12 1)))]) H25 := hP25
      have hD27 : va_D A ([(h0, .inl (G.2.1, 55, .inl (upd (upd (upd (upd (upd (upd f_1 0 1) 1 1) 2 1) 3 1) 4 1) 12 1)))]) := hD25
      refine lv_aload_n hx hb dX7_layFirst_57 rfl (lv_at hl24 2 rfl) ?_
      refine lv_bipush (v := 16) hx hb dX7_layFirst_58 (by decide) ?_
      refine lv_iload_n hx hb dX7_layFirst_60 rfl (lv_at hl24 1 rfl) ?_
      refine lv_imul hx hb dX7_layFirst_61 ?_
      refine k_top (y := 0) (by decide +kernel) ?_
      refine lv_bipush (v := 13) hx hb dX7_layFirst_62 (by decide) ?_
      refine lv_iadd hx hb dX7_layFirst_64 ?_
      refine k_top (y := 13) (by decide +kernel) ?_
      refine lv_iconst (v := 1) hx hb dX7_layFirst_65 (by decide) ?_
      refine k_iast kx hK hP26 hD27 hS25 0 rfl 13 rfl (by decide) (by decide) dX7_layFirst_66 (fun H28 locs28 hP28 hD28 hS28 => ?_)
      have hP29 : va_P G.1 vwCl ([(h0, .inl (G.2.1, 55, .inl (upd (upd (upd (upd (upd (upd (upd f_1 0 1) 1 1) 2 1) 3 1) 4 1) 12 1) 13 1)))]) H28 := hP28
      have hD30 : va_D A ([(h0, .inl (G.2.1, 55, .inl (upd (upd (upd (upd (upd (upd (upd f_1 0 1) 1 1) 2 1) 3 1) 4 1) 12 1) 13 1)))]) := hD28
      refine lv_aload_n hx hb dX7_layFirst_67 rfl (lv_at hl24 2 rfl) ?_
      refine lv_bipush (v := 16) hx hb dX7_layFirst_68 (by decide) ?_
      refine lv_iload_n hx hb dX7_layFirst_70 rfl (lv_at hl24 1 rfl) ?_
      refine lv_imul hx hb dX7_layFirst_71 ?_
      refine k_top (y := 0) (by decide +kernel) ?_
      refine lv_bipush (v := 14) hx hb dX7_layFirst_72 (by decide) ?_
      refine lv_iadd hx hb dX7_layFirst_74 ?_
      refine k_top (y := 14) (by decide +kernel) ?_
      refine lv_iconst (v := 1) hx hb dX7_layFirst_75 (by decide) ?_
      refine k_iast kx hK hP29 hD30 hS28 0 rfl 14 rfl (by decide) (by decide) dX7_layFirst_76 (fun H31 locs31 hP31 hD31 hS31 => ?_)
      have hP32 : va_P G.1 vwCl ([(h0, .inl (G.2.1, 55, .inl (upd (upd (upd (upd (upd (upd (upd (upd f_1 0 1) 1 1) 2 1) 3 1) 4 1) 12 1) 13 1) 14 1)))]) H31 := hP31
      have hD33 : va_D A ([(h0, .inl (G.2.1, 55, .inl (upd (upd (upd (upd (upd (upd (upd (upd f_1 0 1) 1 1) 2 1) 3 1) 4 1) 12 1) 13 1) 14 1)))]) := hD31
      refine lv_aload_n hx hb dX7_layFirst_77 rfl (lv_at hl24 2 rfl) ?_
      refine lv_bipush (v := 32) hx hb dX7_layFirst_78 (by decide) ?_
      refine lv_iload_n hx hb dX7_layFirst_80 rfl (lv_at hl24 1 rfl) ?_
      refine lv_iadd hx hb dX7_layFirst_81 ?_
      refine k_top (y := 32) (by decide +kernel) ?_
      refine lv_iconst (v := 1) hx hb dX7_layFirst_82 (by decide) ?_
      refine k_iast kx hK hP32 hD33 hS31 0 rfl 32 rfl (by decide) (by decide) dX7_layFirst_83 (fun H34 locs34 hP34 hD34 hS34 => ?_)
      have hP35 : va_P G.1 vwCl ([(h0, .inl (G.2.1, 55, .inl (upd (upd (upd (upd (upd (upd (upd (upd (upd f_1 0 1) 1 1) 2 1) 3 1) 4 1) 12 1) 13 1) 14 1) 32 1)))]) H34 := hP34
      have hD36 : va_D A ([(h0, .inl (G.2.1, 55, .inl (upd (upd (upd (upd (upd (upd (upd (upd (upd f_1 0 1) 1 1) 2 1) 3 1) 4 1) 12 1) 13 1) 14 1) 32 1)))]) := hD34
      refine lv_iinc (v := 1) (lv' := [(1, .int 1), (2, .int 5), (0, .ref h0)]) hx hb dX7_layFirst_84 hl24 (k := 1) rfl (by decide +kernel) (by decide) rfl (fun ls37 hl37 => ?_)
      refine lv_goto (tgt := 20) hx hb dX7_layFirst_87 (by decide) ?_
      refine lv_iload_n hx hb dX7_layFirst_20 rfl (lv_at hl37 0 rfl) ?_
      refine lv_iconst (v := 2) hx hb dX7_layFirst_21 (by decide) ?_
      refine lv_icmp_ge (x := 1) (y := 2) (tgt := 90) hx hb dX7_layFirst_22 (by decide) (fun (c9 : 2 ≤ 1) => absurd c9 (by decide)) (fun (c9 : ¬ (2 ≤ 1)) => ?_)
      refine lv_iconst (v := 0) hx hb dX7_layFirst_25 (by decide) ?_
      refine lv_istore_n (lv' := [(2, .int 0), (1, .int 1), (0, .ref h0)]) hx hb dX7_layFirst_26 rfl hl37 (by decide) rfl (fun ls38 hl38 => ?_)
      refine lv_iload_n hx hb dX7_layFirst_27 rfl (lv_at hl38 0 rfl) ?_
      refine lv_iconst (v := 5) hx hb dX7_layFirst_28 (by decide) ?_
      refine lv_icmp_ge (x := 0) (y := 5) (tgt := 47) hx hb dX7_layFirst_29 (by decide) (fun (c10 : 5 ≤ 0) => absurd c10 (by decide)) (fun (c10 : ¬ (5 ≤ 0)) => ?_)
      refine lv_aload_n hx hb dX7_layFirst_32 rfl (lv_at hl38 2 rfl) ?_
      refine lv_bipush (v := 16) hx hb dX7_layFirst_33 (by decide) ?_
      refine lv_iload_n hx hb dX7_layFirst_35 rfl (lv_at hl38 1 rfl) ?_
      refine lv_imul hx hb dX7_layFirst_36 ?_
      refine k_top (y := 16) (by decide +kernel) ?_
      refine lv_iload_n hx hb dX7_layFirst_37 rfl (lv_at hl38 0 rfl) ?_
      refine lv_iadd hx hb dX7_layFirst_38 ?_
      refine k_top (y := 16) (by decide +kernel) ?_
      refine lv_iconst (v := 1) hx hb dX7_layFirst_39 (by decide) ?_
      refine k_iast kx hK hP35 hD36 hS34 0 rfl 16 rfl (by decide) (by decide) dX7_layFirst_40 (fun H39 locs39 hP39 hD39 hS39 => ?_)
      have hP40 : va_P G.1 vwCl ([(h0, .inl (G.2.1, 55, .inl (upd (upd (upd (upd (upd (upd (upd (upd (upd (upd f_1 0 1) 1 1) 2 1) 3 1) 4 1) 12 1) 13 1) 14 1) 32 1) 16 1)))]) H39 := hP39
      have hD41 : va_D A ([(h0, .inl (G.2.1, 55, .inl (upd (upd (upd (upd (upd (upd (upd (upd (upd (upd f_1 0 1) 1 1) 2 1) 3 1) 4 1) 12 1) 13 1) 14 1) 32 1) 16 1)))]) := hD39
      refine lv_iinc (v := 1) (lv' := [(2, .int 1), (1, .int 1), (0, .ref h0)]) hx hb dX7_layFirst_41 hl38 (k := 0) rfl (by decide +kernel) (by decide) rfl (fun ls42 hl42 => ?_)
      refine lv_goto (tgt := 27) hx hb dX7_layFirst_44 (by decide) ?_
      refine lv_iload_n hx hb dX7_layFirst_27 rfl (lv_at hl42 0 rfl) ?_
      refine lv_iconst (v := 5) hx hb dX7_layFirst_28 (by decide) ?_
      refine lv_icmp_ge (x := 1) (y := 5) (tgt := 47) hx hb dX7_layFirst_29 (by decide) (fun (c11 : 5 ≤ 1) => absurd c11 (by decide)) (fun (c11 : ¬ (5 ≤ 1)) => ?_)
      refine lv_aload_n hx hb dX7_layFirst_32 rfl (lv_at hl42 2 rfl) ?_
      refine lv_bipush (v := 16) hx hb dX7_layFirst_33 (by decide) ?_
      refine lv_iload_n hx hb dX7_layFirst_35 rfl (lv_at hl42 1 rfl) ?_
      refine lv_imul hx hb dX7_layFirst_36 ?_
      refine k_top (y := 16) (by decide +kernel) ?_
      refine lv_iload_n hx hb dX7_layFirst_37 rfl (lv_at hl42 0 rfl) ?_
      refine lv_iadd hx hb dX7_layFirst_38 ?_
      refine k_top (y := 17) (by decide +kernel) ?_
      refine lv_iconst (v := 1) hx hb dX7_layFirst_39 (by decide) ?_
      refine k_iast kx hK hP40 hD41 hS39 0 rfl 17 rfl (by decide) (by decide) dX7_layFirst_40 (fun H43 locs43 hP43 hD43 hS43 => ?_)
      have hP44 : va_P G.1 vwCl ([(h0, .inl (G.2.1, 55, .inl (upd (upd (upd (upd (upd (upd (upd (upd (upd (upd (upd f_1 0 1) 1 1) 2 1) 3 1) 4 1) 12 1) 13 1) 14 1) 32 1) 16 1) 17 1)))]) H43 := hP43
      have hD45 : va_D A ([(h0, .inl (G.2.1, 55, .inl (upd (upd (upd (upd (upd (upd (upd (upd (upd (upd (upd f_1 0 1) 1 1) 2 1) 3 1) 4 1) 12 1) 13 1) 14 1) 32 1) 16 1) 17 1)))]) := hD43
      refine lv_iinc (v := 2) (lv' := [(2, .int 2), (1, .int 1), (0, .ref h0)]) hx hb dX7_layFirst_41 hl42 (k := 0) rfl (by decide +kernel) (by decide) rfl (fun ls46 hl46 => ?_)
      refine lv_goto (tgt := 27) hx hb dX7_layFirst_44 (by decide) ?_
      refine lv_iload_n hx hb dX7_layFirst_27 rfl (lv_at hl46 0 rfl) ?_
      refine lv_iconst (v := 5) hx hb dX7_layFirst_28 (by decide) ?_
      refine lv_icmp_ge (x := 2) (y := 5) (tgt := 47) hx hb dX7_layFirst_29 (by decide) (fun (c12 : 5 ≤ 2) => absurd c12 (by decide)) (fun (c12 : ¬ (5 ≤ 2)) => ?_)
      refine lv_aload_n hx hb dX7_layFirst_32 rfl (lv_at hl46 2 rfl) ?_
      refine lv_bipush (v := 16) hx hb dX7_layFirst_33 (by decide) ?_
      refine lv_iload_n hx hb dX7_layFirst_35 rfl (lv_at hl46 1 rfl) ?_
      refine lv_imul hx hb dX7_layFirst_36 ?_
      refine k_top (y := 16) (by decide +kernel) ?_
      refine lv_iload_n hx hb dX7_layFirst_37 rfl (lv_at hl46 0 rfl) ?_
      refine lv_iadd hx hb dX7_layFirst_38 ?_
      refine k_top (y := 18) (by decide +kernel) ?_
      refine lv_iconst (v := 1) hx hb dX7_layFirst_39 (by decide) ?_
      refine k_iast kx hK hP44 hD45 hS43 0 rfl 18 rfl (by decide) (by decide) dX7_layFirst_40 (fun H47 locs47 hP47 hD47 hS47 => ?_)
      have hP48 : va_P G.1 vwCl ([(h0, .inl (G.2.1, 55, .inl (upd (upd (upd (upd (upd (upd (upd (upd (upd (upd (upd (upd f_1 0 1) 1 1) 2 1) 3 1) 4 1) 12 1) 13 1) 14 1) 32 1) 16 1) 17 1) 18 1)))]) H47 := hP47
      have hD49 : va_D A ([(h0, .inl (G.2.1, 55, .inl (upd (upd (upd (upd (upd (upd (upd (upd (upd (upd (upd (upd f_1 0 1) 1 1) 2 1) 3 1) 4 1) 12 1) 13 1) 14 1) 32 1) 16 1) 17 1) 18 1)))]) := hD47
      refine lv_iinc (v := 3) (lv' := [(2, .int 3), (1, .int 1), (0, .ref h0)]) hx hb dX7_layFirst_41 hl46 (k := 0) rfl (by decide +kernel) (by decide) rfl (fun ls50 hl50 => ?_)
      refine lv_goto (tgt := 27) hx hb dX7_layFirst_44 (by decide) ?_
      refine lv_iload_n hx hb dX7_layFirst_27 rfl (lv_at hl50 0 rfl) ?_
      refine lv_iconst (v := 5) hx hb dX7_layFirst_28 (by decide) ?_
      refine lv_icmp_ge (x := 3) (y := 5) (tgt := 47) hx hb dX7_layFirst_29 (by decide) (fun (c13 : 5 ≤ 3) => absurd c13 (by decide)) (fun (c13 : ¬ (5 ≤ 3)) => ?_)
      refine lv_aload_n hx hb dX7_layFirst_32 rfl (lv_at hl50 2 rfl) ?_
      refine lv_bipush (v := 16) hx hb dX7_layFirst_33 (by decide) ?_
      refine lv_iload_n hx hb dX7_layFirst_35 rfl (lv_at hl50 1 rfl) ?_
      refine lv_imul hx hb dX7_layFirst_36 ?_
      refine k_top (y := 16) (by decide +kernel) ?_
      refine lv_iload_n hx hb dX7_layFirst_37 rfl (lv_at hl50 0 rfl) ?_
      refine lv_iadd hx hb dX7_layFirst_38 ?_
      refine k_top (y := 19) (by decide +kernel) ?_
      refine lv_iconst (v := 1) hx hb dX7_layFirst_39 (by decide) ?_
      refine k_iast kx hK hP48 hD49 hS47 0 rfl 19 rfl (by decide) (by decide) dX7_layFirst_40 (fun H51 locs51 hP51 hD51 hS51 => ?_)
      have hP52 : va_P G.1 vwCl ([(h0, .inl (G.2.1, 55, .inl (upd (upd (upd (upd (upd (upd (upd (upd (upd (upd (upd (upd (upd f_1 0 1) 1 1) 2 1) 3 1) 4 1) 12 1) 13 1) 14 1) 32 1) 16 1) 17 1) 18 1) 19 1)))]) H51 := hP51
      have hD53 : va_D A ([(h0, .inl (G.2.1, 55, .inl (upd (upd (upd (upd (upd (upd (upd (upd (upd (upd (upd (upd (upd f_1 0 1) 1 1) 2 1) 3 1) 4 1) 12 1) 13 1) 14 1) 32 1) 16 1) 17 1) 18 1) 19 1)))]) := hD51
      refine lv_iinc (v := 4) (lv' := [(2, .int 4), (1, .int 1), (0, .ref h0)]) hx hb dX7_layFirst_41 hl50 (k := 0) rfl (by decide +kernel) (by decide) rfl (fun ls54 hl54 => ?_)
      refine lv_goto (tgt := 27) hx hb dX7_layFirst_44 (by decide) ?_
      refine lv_iload_n hx hb dX7_layFirst_27 rfl (lv_at hl54 0 rfl) ?_
      refine lv_iconst (v := 5) hx hb dX7_layFirst_28 (by decide) ?_
      refine lv_icmp_ge (x := 4) (y := 5) (tgt := 47) hx hb dX7_layFirst_29 (by decide) (fun (c14 : 5 ≤ 4) => absurd c14 (by decide)) (fun (c14 : ¬ (5 ≤ 4)) => ?_)
      refine lv_aload_n hx hb dX7_layFirst_32 rfl (lv_at hl54 2 rfl) ?_
      refine lv_bipush (v := 16) hx hb dX7_layFirst_33 (by decide) ?_
      refine lv_iload_n hx hb dX7_layFirst_35 rfl (lv_at hl54 1 rfl) ?_
      refine lv_imul hx hb dX7_layFirst_36 ?_
      refine k_top (y := 16) (by decide +kernel) ?_
      refine lv_iload_n hx hb dX7_layFirst_37 rfl (lv_at hl54 0 rfl) ?_
      refine lv_iadd hx hb dX7_layFirst_38 ?_
      refine k_top (y := 20) (by decide +kernel) ?_
      refine lv_iconst (v := 1) hx hb dX7_layFirst_39 (by decide) ?_
      refine k_iast kx hK hP52 hD53 hS51 0 rfl 20 rfl (by decide) (by decide) dX7_layFirst_40 (fun H55 locs55 hP55 hD55 hS55 => ?_)
      have hP56 : va_P G.1 vwCl ([(h0, .inl (G.2.1, 55, .inl (upd (upd (upd (upd (upd (upd (upd (upd (upd (upd (upd (upd (upd (upd f_1 0 1) 1 1) 2 1) 3 1) 4 1) 12 1) 13 1) 14 1) 32 1) 16 1) 17 1) 18 1) 19 1) 20 1)))]) H55 := hP55
      have hD57 : va_D A ([(h0, .inl (G.2.1, 55, .inl (upd (upd (upd (upd (upd (upd (upd (upd (upd (upd (upd (upd (upd (upd f_1 0 1) 1 1) 2 1) 3 1) 4 1) 12 1) 13 1) 14 1) 32 1) 16 1) 17 1) 18 1) 19 1) 20 1)))]) := hD55
      refine lv_iinc (v := 5) (lv' := [(2, .int 5), (1, .int 1), (0, .ref h0)]) hx hb dX7_layFirst_41 hl54 (k := 0) rfl (by decide +kernel) (by decide) rfl (fun ls58 hl58 => ?_)
      refine lv_goto (tgt := 27) hx hb dX7_layFirst_44 (by decide) ?_
      refine lv_iload_n hx hb dX7_layFirst_27 rfl (lv_at hl58 0 rfl) ?_
      refine lv_iconst (v := 5) hx hb dX7_layFirst_28 (by decide) ?_
      refine lv_icmp_ge (x := 5) (y := 5) (tgt := 47) hx hb dX7_layFirst_29 (by decide) (fun (c15 : 5 ≤ 5) => ?_) (fun (c15 : ¬ (5 ≤ 5)) => absurd (by decide) c15)
      refine lv_aload_n hx hb dX7_layFirst_47 rfl (lv_at hl58 2 rfl) ?_
      refine lv_bipush (v := 16) hx hb dX7_layFirst_48 (by decide) ?_
      refine lv_iload_n hx hb dX7_layFirst_50 rfl (lv_at hl58 1 rfl) ?_
      refine lv_imul hx hb dX7_layFirst_51 ?_
      refine k_top (y := 16) (by decide +kernel) ?_
      refine lv_bipush (v := 12) hx hb dX7_layFirst_52 (by decide) ?_
      refine lv_iadd hx hb dX7_layFirst_54 ?_
      refine k_top (y := 28) (by decide +kernel) ?_
      refine lv_iconst (v := 1) hx hb dX7_layFirst_55 (by decide) ?_
      refine k_iast kx hK hP56 hD57 hS55 0 rfl 28 rfl (by decide) (by decide) dX7_layFirst_56 (fun H59 locs59 hP59 hD59 hS59 => ?_)
      have hP60 : va_P G.1 vwCl ([(h0, .inl (G.2.1, 55, .inl (upd (upd (upd (upd (upd (upd (upd (upd (upd (upd (upd (upd (upd (upd (upd f_1 0 1) 1 1) 2 1) 3 1) 4 1) 12 1) 13 1) 14 1) 32 1) 16 1) 17 1) 18 1) 19 1) 20 1) 28 1)))]) H59 := hP59
      have hD61 : va_D A ([(h0, .inl (G.2.1, 55, .inl (upd (upd (upd (upd (upd (upd (upd (upd (upd (upd (upd (upd (upd (upd (upd f_1 0 1) 1 1) 2 1) 3 1) 4 1) 12 1) 13 1) 14 1) 32 1) 16 1) 17 1) 18 1) 19 1) 20 1) 28 1)))]) := hD59
      refine lv_aload_n hx hb dX7_layFirst_57 rfl (lv_at hl58 2 rfl) ?_
      refine lv_bipush (v := 16) hx hb dX7_layFirst_58 (by decide) ?_
      refine lv_iload_n hx hb dX7_layFirst_60 rfl (lv_at hl58 1 rfl) ?_
      refine lv_imul hx hb dX7_layFirst_61 ?_
      refine k_top (y := 16) (by decide +kernel) ?_
      refine lv_bipush (v := 13) hx hb dX7_layFirst_62 (by decide) ?_
      refine lv_iadd hx hb dX7_layFirst_64 ?_
      refine k_top (y := 29) (by decide +kernel) ?_
      refine lv_iconst (v := 1) hx hb dX7_layFirst_65 (by decide) ?_
      refine k_iast kx hK hP60 hD61 hS59 0 rfl 29 rfl (by decide) (by decide) dX7_layFirst_66 (fun H62 locs62 hP62 hD62 hS62 => ?_)
      have hP63 : va_P G.1 vwCl ([(h0, .inl (G.2.1, 55, .inl (upd (upd (upd (upd (upd (upd (upd (upd (upd (upd (upd (upd (upd (upd (upd (upd f_1 0 1) 1 1) 2 1) 3 1) 4 1) 12 1) 13 1) 14 1) 32 1) 16 1) 17 1) 18 1) 19 1) 20 1) 28 1) 29 1)))]) H62 := hP62
      have hD64 : va_D A ([(h0, .inl (G.2.1, 55, .inl (upd (upd (upd (upd (upd (upd (upd (upd (upd (upd (upd (upd (upd (upd (upd (upd f_1 0 1) 1 1) 2 1) 3 1) 4 1) 12 1) 13 1) 14 1) 32 1) 16 1) 17 1) 18 1) 19 1) 20 1) 28 1) 29 1)))]) := hD62
      refine lv_aload_n hx hb dX7_layFirst_67 rfl (lv_at hl58 2 rfl) ?_
      refine lv_bipush (v := 16) hx hb dX7_layFirst_68 (by decide) ?_
      refine lv_iload_n hx hb dX7_layFirst_70 rfl (lv_at hl58 1 rfl) ?_
      refine lv_imul hx hb dX7_layFirst_71 ?_
      refine k_top (y := 16) (by decide +kernel) ?_
      refine lv_bipush (v := 14) hx hb dX7_layFirst_72 (by decide) ?_
      refine lv_iadd hx hb dX7_layFirst_74 ?_
      refine k_top (y := 30) (by decide +kernel) ?_
      refine lv_iconst (v := 1) hx hb dX7_layFirst_75 (by decide) ?_
      refine k_iast kx hK hP63 hD64 hS62 0 rfl 30 rfl (by decide) (by decide) dX7_layFirst_76 (fun H65 locs65 hP65 hD65 hS65 => ?_)
      have hP66 : va_P G.1 vwCl ([(h0, .inl (G.2.1, 55, .inl (upd (upd (upd (upd (upd (upd (upd (upd (upd (upd (upd (upd (upd (upd (upd (upd (upd f_1 0 1) 1 1) 2 1) 3 1) 4 1) 12 1) 13 1) 14 1) 32 1) 16 1) 17 1) 18 1) 19 1) 20 1) 28 1) 29 1) 30 1)))]) H65 := hP65
      have hD67 : va_D A ([(h0, .inl (G.2.1, 55, .inl (upd (upd (upd (upd (upd (upd (upd (upd (upd (upd (upd (upd (upd (upd (upd (upd (upd f_1 0 1) 1 1) 2 1) 3 1) 4 1) 12 1) 13 1) 14 1) 32 1) 16 1) 17 1) 18 1) 19 1) 20 1) 28 1) 29 1) 30 1)))]) := hD65
      refine lv_aload_n hx hb dX7_layFirst_77 rfl (lv_at hl58 2 rfl) ?_
      refine lv_bipush (v := 32) hx hb dX7_layFirst_78 (by decide) ?_
      refine lv_iload_n hx hb dX7_layFirst_80 rfl (lv_at hl58 1 rfl) ?_
      refine lv_iadd hx hb dX7_layFirst_81 ?_
      refine k_top (y := 33) (by decide +kernel) ?_
      refine lv_iconst (v := 1) hx hb dX7_layFirst_82 (by decide) ?_
      refine k_iast kx hK hP66 hD67 hS65 0 rfl 33 rfl (by decide) (by decide) dX7_layFirst_83 (fun H68 locs68 hP68 hD68 hS68 => ?_)
      have hP69 : va_P G.1 vwCl ([(h0, .inl (G.2.1, 55, .inl (upd (upd (upd (upd (upd (upd (upd (upd (upd (upd (upd (upd (upd (upd (upd (upd (upd (upd f_1 0 1) 1 1) 2 1) 3 1) 4 1) 12 1) 13 1) 14 1) 32 1) 16 1) 17 1) 18 1) 19 1) 20 1) 28 1) 29 1) 30 1) 33 1)))]) H68 := hP68
      have hD70 : va_D A ([(h0, .inl (G.2.1, 55, .inl (upd (upd (upd (upd (upd (upd (upd (upd (upd (upd (upd (upd (upd (upd (upd (upd (upd (upd f_1 0 1) 1 1) 2 1) 3 1) 4 1) 12 1) 13 1) 14 1) 32 1) 16 1) 17 1) 18 1) 19 1) 20 1) 28 1) 29 1) 30 1) 33 1)))]) := hD68
      refine lv_iinc (v := 2) (lv' := [(1, .int 2), (2, .int 5), (0, .ref h0)]) hx hb dX7_layFirst_84 hl58 (k := 1) rfl (by decide +kernel) (by decide) rfl (fun ls71 hl71 => ?_)
      refine lv_goto (tgt := 20) hx hb dX7_layFirst_87 (by decide) ?_
      refine lv_iload_n hx hb dX7_layFirst_20 rfl (lv_at hl71 0 rfl) ?_
      refine lv_iconst (v := 2) hx hb dX7_layFirst_21 (by decide) ?_
      refine lv_icmp_ge (x := 2) (y := 2) (tgt := 90) hx hb dX7_layFirst_22 (by decide) (fun (c16 : 2 ≤ 2) => ?_) (fun (c16 : ¬ (2 ≤ 2)) => absurd (by decide) c16)
      have e0 : s_X7_layFirst_f f = upd (upd (upd (upd (upd (upd (upd (upd (upd (upd (upd (upd (upd (upd (upd (upd (upd (upd f_1 0 1) 1 1) 2 1) 3 1) 4 1) 12 1) 13 1) 14 1) 32 1) 16 1) 17 1) 18 1) 19 1) 20 1) 28 1) 29 1) 30 1) 33 1 := by rw [hf_1, l_X7_layFirst_1_f]
      exact k_vret kx hK hP69 hD70 hS68 (u := upd (upd (upd (upd (upd (upd (upd (upd (upd (upd (upd (upd (upd (upd (upd (upd (upd (upd f_1 0 1) 1 1) 2 1) 3 1) 4 1) 12 1) 13 1) 14 1) 32 1) 16 1) 17 1) 18 1) 19 1) 20 1) 28 1) 29 1) 30 1) 33 1) rfl e0.symm dX7_layFirst_90
    | succ n1 ih1 =>
      intro j1 f_1 hj1 hf_1 H2 locs2 ls2 hP2 hD2 hS2 hl2
      refine lv_iload_n hx hb dX7_layFirst_2 rfl (lv_at hl2 1 rfl) ?_
      refine lv_bipush (v := 55) hx hb dX7_layFirst_3 (by decide) ?_
      refine lv_icmp_ge (x := nI j1) (y := 55) (tgt := 18) hx hb dX7_layFirst_5 (by decide) (fun (c17 : 55 ≤ nI j1) => absurd c17 (kle_s rfl hj1 (by decide))) (fun (c17 : ¬ (55 ≤ nI j1)) => ?_)
      refine lv_aload_n hx hb dX7_layFirst_8 rfl (lv_at hl2 0 rfl) ?_
      refine lv_iload_n hx hb dX7_layFirst_9 rfl (lv_at hl2 1 rfl) ?_
      refine lv_iconst (v := 0) hx hb dX7_layFirst_10 (by decide) ?_
      refine k_iast kx hK hP2 hD2 hS2 0 rfl j1 rfl (by omega) (by decide) dX7_layFirst_11 (fun H72 locs72 hP72 hD72 hS72 => ?_)
      have hP73 : va_P G.1 vwCl ([(h0, .inl (G.2.1, 55, .inl (upd f_1 j1 0)))]) H72 := hP72
      have hD74 : va_D A ([(h0, .inl (G.2.1, 55, .inl (upd f_1 j1 0)))]) := hD72
      refine lv_iinc (v := nI (j1 + 1)) (lv' := [(1, .int (nI (j1 + 1))), (0, .ref h0)]) hx hb dX7_layFirst_12 hl2 (k := 1) rfl (nI_1 j1) (by decide) rfl (fun ls75 hl75 => ?_)
      refine lv_goto (tgt := 2) hx hb dX7_layFirst_15 (by decide) ?_
      have gf : s_X7_layFirst_f f = l_X7_layFirst_1_f n1 (j1 + 1) (upd f_1 j1 0) := by rw [hf_1, l_X7_layFirst_1_f]
      exact ih1 (j1 + 1) (upd f_1 j1 0) (by omega) gf _ _ _ hP73 hD74 hS72 (lv_sub hl75 [1, 0] rfl)
  have gf : s_X7_layFirst_f f = l_X7_layFirst_1_f 55 0 f := by rw [s_X7_layFirst_f]
  exact lp1 55 0 f (by omega) gf _ _ _ hP hD hS (lv_sub hl1 [1, 0] rfl)

def l_X7_lay_1_t (f : Nat → Int32) : Nat → Nat → (Nat → Int32) → Nat → Int32
  | 0, j1, t_1 => t_1
  | n1 + 1, j1, t_1 => l_X7_lay_1_t f n1 (j1 + 1) (upd t_1 j1 (f j1))
def s_X7_lay_t (f : Nat → Int32) (t : Nat → Int32) : Nat → Int32 := l_X7_lay_1_t f 55 0 t
set_option maxHeartbeats 4000000 in
set_option maxRecDepth 100000 in
theorem c_X7_lay (l : Launch) (G : kG) (f : Nat → Int32) (t : Nat → Int32) (h0 : Nat) (h1 : Nat) : cG l G yX7_lay cX7_lay 3 none 0 [.ref h0, .ref h1] ([(h0, .inl (G.2.1, 55, .inl f)), (h1, .inl (G.2.1, 55, .inl t))]) (qV G (fun u : (Nat → Int32) => u = s_X7_lay_t f t) (fun u => [(h0, .inl (G.2.1, 55, .inl f)), (h1, .inl (G.2.1, 55, .inl u))])) := by
  refine kintro (by decide) (Nat.le_of_ble_eq_true rfl) ?_
  intro p e s m args below meth c A ls kx hK hP hD hS hA hl
  have kx : kX p s m args meth c cX7_lay 3 none RX7 := kx
  have hx := kx.1
  have hb := kx.2.1
  have hown := kx.2.2.2.2.1
  have ht := kx.2.2.2.2.2.2
  have hl : lv_has ls 3 [(0, .ref h0), (1, .ref h1)] := hl
  refine lv_iconst (v := 0) hx hb dX7_lay_0 (by decide) ?_
  refine lv_istore_n (lv' := [(2, .int 0), (0, .ref h0), (1, .ref h1)]) hx hb dX7_lay_1 rfl hl (by decide) rfl (fun ls1 hl1 => ?_)
  have lp1 : ∀ (n1 j1 : Nat) (t_1 : Nat → Int32), j1 + n1 = 55 → (ht_1 : s_X7_lay_t f t = l_X7_lay_1_t f n1 j1 t_1) → ∀ (H : Heap) (locs : List Loc) (ls : Array Slot), va_P G.1 vwCl ([(h0, .inl (G.2.1, 55, .inl f)), (h1, .inl (G.2.1, 55, .inl t_1))]) H → va_D A ([(h0, .inl (G.2.1, 55, .inl f)), (h1, .inl (G.2.1, 55, .inl t_1))]) → va_S A s.heap H locs → lv_has ls 3 [(0, .ref h0), (1, .ref h1), (2, .int (nI j1))] → W p l e (kr 0) s m args below meth c H locs 0 0 (MQ below (qV G (fun u : (Nat → Int32) => u = s_X7_lay_t f t) (fun u => [(h0, .inl (G.2.1, 55, .inl f)), (h1, .inl (G.2.1, 55, .inl u))]) A) args s 0 0 A) (F0 m 2 ls []) := by
    intro n1
    induction n1 with
    | zero =>
      intro j1 t_1 hj1 ht_1 H2 locs2 ls2 hP2 hD2 hS2 hl2
      refine lv_iload_n hx hb dX7_lay_2 rfl (lv_at hl2 2 rfl) ?_
      refine lv_bipush (v := 55) hx hb dX7_lay_3 (by decide) ?_
      refine lv_icmp_ge (x := nI j1) (y := 55) (tgt := 20) hx hb dX7_lay_5 (by decide) (fun (c1 : 55 ≤ nI j1) => ?_) (fun (c1 : ¬ (55 ≤ nI j1)) => absurd (kle_z rfl hj1) c1)
      have e0 : s_X7_lay_t f t = t_1 := by rw [ht_1, l_X7_lay_1_t]
      exact k_vret kx hK hP2 hD2 hS2 (u := t_1) rfl e0.symm dX7_lay_20
    | succ n1 ih1 =>
      intro j1 t_1 hj1 ht_1 H2 locs2 ls2 hP2 hD2 hS2 hl2
      refine lv_iload_n hx hb dX7_lay_2 rfl (lv_at hl2 2 rfl) ?_
      refine lv_bipush (v := 55) hx hb dX7_lay_3 (by decide) ?_
      refine lv_icmp_ge (x := nI j1) (y := 55) (tgt := 20) hx hb dX7_lay_5 (by decide) (fun (c2 : 55 ≤ nI j1) => absurd c2 (kle_s rfl hj1 (by decide))) (fun (c2 : ¬ (55 ≤ nI j1)) => ?_)
      refine lv_aload_n hx hb dX7_lay_8 rfl (lv_at hl2 1 rfl) ?_
      refine lv_iload_n hx hb dX7_lay_9 rfl (lv_at hl2 2 rfl) ?_
      refine lv_aload_n hx hb dX7_lay_10 rfl (lv_at hl2 0 rfl) ?_
      refine lv_iload_n hx hb dX7_lay_11 rfl (lv_at hl2 2 rfl) ?_
      refine k_iald (v := (f j1)) kx hK hP2 0 rfl j1 rfl (by omega) (by decide) rfl dX7_lay_12 ?_
      refine k_iast kx hK hP2 hD2 hS2 1 rfl j1 rfl (by omega) (by decide) dX7_lay_13 (fun H3 locs3 hP3 hD3 hS3 => ?_)
      have hP4 : va_P G.1 vwCl ([(h0, .inl (G.2.1, 55, .inl f)), (h1, .inl (G.2.1, 55, .inl (upd t_1 j1 (f j1))))]) H3 := hP3
      have hD5 : va_D A ([(h0, .inl (G.2.1, 55, .inl f)), (h1, .inl (G.2.1, 55, .inl (upd t_1 j1 (f j1))))]) := hD3
      refine lv_iinc (v := nI (j1 + 1)) (lv' := [(2, .int (nI (j1 + 1))), (0, .ref h0), (1, .ref h1)]) hx hb dX7_lay_14 hl2 (k := 2) rfl (nI_1 j1) (by decide) rfl (fun ls6 hl6 => ?_)
      refine lv_goto (tgt := 2) hx hb dX7_lay_17 (by decide) ?_
      have gt : s_X7_lay_t f t = l_X7_lay_1_t f n1 (j1 + 1) (upd t_1 j1 (f j1)) := by rw [ht_1, l_X7_lay_1_t]
      exact ih1 (j1 + 1) (upd t_1 j1 (f j1)) (by omega) gt _ _ _ hP4 hD5 hS3 (lv_sub hl6 [1, 2, 0] rfl)
  have gt : s_X7_lay_t f t = l_X7_lay_1_t f 55 0 t := by rw [s_X7_lay_t]
  exact lp1 55 0 t (by omega) gt _ _ _ hP hD hS (lv_sub hl1 [1, 2, 0] rfl)

def r_X7_bothUp_0 (f : Nat → Int32) : Int32 := if f 5 = 2 then (if f 11 = 2 then 1 else 0) else 0
set_option maxHeartbeats 4000000 in
set_option maxRecDepth 100000 in
theorem c_X7_bothUp_0 (l : Launch) (G : kG) (f : Nat → Int32) (h0 : Nat) : cG l G yX7_bothUp cX7_bothUp 2 (some .boolean) 0 [.ref h0, .int 0] ([(h0, .inl (G.2.1, 55, .inl f))]) (qI G (fun (r : Int32) (_ : Unit) => r = r_X7_bothUp_0 f) (fun _ => [(h0, .inl (G.2.1, 55, .inl f))])) := by
  refine kintro (by decide) (Nat.le_of_ble_eq_true rfl) ?_
  intro p e s m args below meth c A ls kx hK hP hD hS hA hl
  have kx : kX p s m args meth c cX7_bothUp 2 (some .boolean) RX7 := kx
  have hx := kx.1
  have hb := kx.2.1
  have hown := kx.2.2.2.2.1
  have ht := kx.2.2.2.2.2.2
  have hl : lv_has ls 2 [(0, .ref h0), (1, .int 0)] := hl
  refine lv_aload_n hx hb dX7_bothUp_0 rfl (lv_at hl 0 rfl) ?_
  refine lv_iload_n hx hb dX7_bothUp_1 rfl (lv_at hl 1 rfl) ?_
  refine lv_iconst (v := 5) hx hb dX7_bothUp_2 (by decide) ?_
  refine lv_iadd hx hb dX7_bothUp_3 ?_
  refine k_top (y := 5) (by decide +kernel) ?_
  refine k_iald (v := (f 5)) kx hK hP 0 rfl 5 rfl (by decide) (by decide) rfl dX7_bothUp_4 ?_
  refine lv_iconst (v := 2) hx hb dX7_bothUp_5 (by decide) ?_
  refine lv_icmp_ne (x := f 5) (y := 2) (tgt := 23) hx hb dX7_bothUp_6 (by decide) (fun (c1 : ¬ (f 5 = 2)) => ?_) (fun (c1 : f 5 = 2) => ?_)
  · skip
    refine lv_iconst (v := 0) hx hb dX7_bothUp_23 (by decide) ?_
    have er : r_X7_bothUp_0 f = 0 := by rw [r_X7_bothUp_0, if_neg c1]
    exact k_zret kx hK hP hD hS (u := ()) rfl er.symm kb0 dX7_bothUp_24
  · skip
    refine lv_aload_n hx hb dX7_bothUp_9 rfl (lv_at hl 0 rfl) ?_
    refine lv_iload_n hx hb dX7_bothUp_10 rfl (lv_at hl 1 rfl) ?_
    refine lv_bipush (v := 11) hx hb dX7_bothUp_11 (by decide) ?_
    refine lv_iadd hx hb dX7_bothUp_13 ?_
    refine k_top (y := 11) (by decide +kernel) ?_
    refine k_iald (v := (f 11)) kx hK hP 0 rfl 11 rfl (by decide) (by decide) rfl dX7_bothUp_14 ?_
    refine lv_iconst (v := 2) hx hb dX7_bothUp_15 (by decide) ?_
    refine lv_icmp_ne (x := f 11) (y := 2) (tgt := 23) hx hb dX7_bothUp_16 (by decide) (fun (c2 : ¬ (f 11 = 2)) => ?_) (fun (c2 : f 11 = 2) => ?_)
    · skip
      refine lv_iconst (v := 0) hx hb dX7_bothUp_23 (by decide) ?_
      have er : r_X7_bothUp_0 f = 0 := by rw [r_X7_bothUp_0, if_pos c1, if_neg c2]
      exact k_zret kx hK hP hD hS (u := ()) rfl er.symm kb0 dX7_bothUp_24
    · skip
      refine lv_iconst (v := 1) hx hb dX7_bothUp_19 (by decide) ?_
      refine lv_goto (tgt := 24) hx hb dX7_bothUp_20 (by decide) ?_
      have er : r_X7_bothUp_0 f = 1 := by rw [r_X7_bothUp_0, if_pos c1, if_pos c2]
      exact k_zret kx hK hP hD hS (u := ()) rfl er.symm kb1 dX7_bothUp_24
theorem kbr_X7_bothUp_0 (f : Nat → Int32) : kb (r_X7_bothUp_0 f) := by
  unfold r_X7_bothUp_0
  repeat' split
  all_goals first | exact kb0 | exact kb1

def r_X7_bothUp_16 (f : Nat → Int32) : Int32 := if f 21 = 2 then (if f 27 = 2 then 1 else 0) else 0
set_option maxHeartbeats 4000000 in
set_option maxRecDepth 100000 in
theorem c_X7_bothUp_16 (l : Launch) (G : kG) (f : Nat → Int32) (h0 : Nat) : cG l G yX7_bothUp cX7_bothUp 2 (some .boolean) 0 [.ref h0, .int 16] ([(h0, .inl (G.2.1, 55, .inl f))]) (qI G (fun (r : Int32) (_ : Unit) => r = r_X7_bothUp_16 f) (fun _ => [(h0, .inl (G.2.1, 55, .inl f))])) := by
  refine kintro (by decide) (Nat.le_of_ble_eq_true rfl) ?_
  intro p e s m args below meth c A ls kx hK hP hD hS hA hl
  have kx : kX p s m args meth c cX7_bothUp 2 (some .boolean) RX7 := kx
  have hx := kx.1
  have hb := kx.2.1
  have hown := kx.2.2.2.2.1
  have ht := kx.2.2.2.2.2.2
  have hl : lv_has ls 2 [(0, .ref h0), (1, .int 16)] := hl
  refine lv_aload_n hx hb dX7_bothUp_0 rfl (lv_at hl 0 rfl) ?_
  refine lv_iload_n hx hb dX7_bothUp_1 rfl (lv_at hl 1 rfl) ?_
  refine lv_iconst (v := 5) hx hb dX7_bothUp_2 (by decide) ?_
  refine lv_iadd hx hb dX7_bothUp_3 ?_
  refine k_top (y := 21) (by decide +kernel) ?_
  refine k_iald (v := (f 21)) kx hK hP 0 rfl 21 rfl (by decide) (by decide) rfl dX7_bothUp_4 ?_
  refine lv_iconst (v := 2) hx hb dX7_bothUp_5 (by decide) ?_
  refine lv_icmp_ne (x := f 21) (y := 2) (tgt := 23) hx hb dX7_bothUp_6 (by decide) (fun (c1 : ¬ (f 21 = 2)) => ?_) (fun (c1 : f 21 = 2) => ?_)
  · skip
    refine lv_iconst (v := 0) hx hb dX7_bothUp_23 (by decide) ?_
    have er : r_X7_bothUp_16 f = 0 := by rw [r_X7_bothUp_16, if_neg c1]
    exact k_zret kx hK hP hD hS (u := ()) rfl er.symm kb0 dX7_bothUp_24
  · skip
    refine lv_aload_n hx hb dX7_bothUp_9 rfl (lv_at hl 0 rfl) ?_
    refine lv_iload_n hx hb dX7_bothUp_10 rfl (lv_at hl 1 rfl) ?_
    refine lv_bipush (v := 11) hx hb dX7_bothUp_11 (by decide) ?_
    refine lv_iadd hx hb dX7_bothUp_13 ?_
    refine k_top (y := 27) (by decide +kernel) ?_
    refine k_iald (v := (f 27)) kx hK hP 0 rfl 27 rfl (by decide) (by decide) rfl dX7_bothUp_14 ?_
    refine lv_iconst (v := 2) hx hb dX7_bothUp_15 (by decide) ?_
    refine lv_icmp_ne (x := f 27) (y := 2) (tgt := 23) hx hb dX7_bothUp_16 (by decide) (fun (c2 : ¬ (f 27 = 2)) => ?_) (fun (c2 : f 27 = 2) => ?_)
    · skip
      refine lv_iconst (v := 0) hx hb dX7_bothUp_23 (by decide) ?_
      have er : r_X7_bothUp_16 f = 0 := by rw [r_X7_bothUp_16, if_pos c1, if_neg c2]
      exact k_zret kx hK hP hD hS (u := ()) rfl er.symm kb0 dX7_bothUp_24
    · skip
      refine lv_iconst (v := 1) hx hb dX7_bothUp_19 (by decide) ?_
      refine lv_goto (tgt := 24) hx hb dX7_bothUp_20 (by decide) ?_
      have er : r_X7_bothUp_16 f = 1 := by rw [r_X7_bothUp_16, if_pos c1, if_pos c2]
      exact k_zret kx hK hP hD hS (u := ()) rfl er.symm kb1 dX7_bothUp_24
theorem kbr_X7_bothUp_16 (f : Nat → Int32) : kb (r_X7_bothUp_16 f) := by
  unfold r_X7_bothUp_16
  repeat' split
  all_goals first | exact kb0 | exact kb1

def r_X7_paceOn_0 (f : Nat → Int32) : Int32 := if f 5 = 2 then (r_X7_max (f 3) (f 13)) else 9
set_option maxHeartbeats 4000000 in
set_option maxRecDepth 100000 in
theorem c_X7_paceOn_0 (l : Launch) (G : kG) (f : Nat → Int32) (h0 : Nat) : cG l G yX7_paceOn cX7_paceOn 2 (some .int) 1 [.ref h0, .int 0] ([(h0, .inl (G.2.1, 55, .inl f))]) (qI G (fun (r : Int32) (_ : Unit) => r = r_X7_paceOn_0 f) (fun _ => [(h0, .inl (G.2.1, 55, .inl f))])) := by
  refine kintro (by decide) (Nat.le_of_ble_eq_true rfl) ?_
  intro p e s m args below meth c A ls kx hK hP hD hS hA hl
  have kx : kX p s m args meth c cX7_paceOn 2 (some .int) RX7 := kx
  have hx := kx.1
  have hb := kx.2.1
  have hown := kx.2.2.2.2.1
  have ht := kx.2.2.2.2.2.2
  have hl : lv_has ls 2 [(0, .ref h0), (1, .int 0)] := hl
  refine lv_aload_n hx hb dX7_paceOn_0 rfl (lv_at hl 0 rfl) ?_
  refine lv_iload_n hx hb dX7_paceOn_1 rfl (lv_at hl 1 rfl) ?_
  refine lv_iconst (v := 5) hx hb dX7_paceOn_2 (by decide) ?_
  refine lv_iadd hx hb dX7_paceOn_3 ?_
  refine k_top (y := 5) (by decide +kernel) ?_
  refine k_iald (v := (f 5)) kx hK hP 0 rfl 5 rfl (by decide) (by decide) rfl dX7_paceOn_4 ?_
  refine lv_iconst (v := 2) hx hb dX7_paceOn_5 (by decide) ?_
  refine lv_icmp_eq (x := f 5) (y := 2) (tgt := 14) hx hb dX7_paceOn_6 (by decide) (fun (c1 : f 5 = 2) => ?_) (fun (c1 : ¬ (f 5 = 2)) => ?_)
  · skip
    refine lv_aload_n hx hb dX7_paceOn_14 rfl (lv_at hl 0 rfl) ?_
    refine lv_iload_n hx hb dX7_paceOn_15 rfl (lv_at hl 1 rfl) ?_
    refine lv_iconst (v := 3) hx hb dX7_paceOn_16 (by decide) ?_
    refine lv_iadd hx hb dX7_paceOn_17 ?_
    refine k_top (y := 3) (by decide +kernel) ?_
    refine k_iald (v := (f 3)) kx hK hP 0 rfl 3 rfl (by decide) (by decide) rfl dX7_paceOn_18 ?_
    refine lv_aload_n hx hb dX7_paceOn_19 rfl (lv_at hl 0 rfl) ?_
    refine lv_iload_n hx hb dX7_paceOn_20 rfl (lv_at hl 1 rfl) ?_
    refine lv_bipush (v := 13) hx hb dX7_paceOn_21 (by decide) ?_
    refine lv_iadd hx hb dX7_paceOn_23 ?_
    refine k_top (y := 13) (by decide +kernel) ?_
    refine k_iald (v := (f 13)) kx hK hP 0 rfl 13 rfl (by decide) (by decide) rfl dX7_paceOn_24 ?_
    refine k_calli (kRunS (As := [.int (f 3), .int (f 13)]) (rest := []) kx (c_X7_max l G (f 3) (f 13)) q_804 q_802 q_36 q_803 nX7_max ⟨Nat.le_of_ble_eq_true rfl, Nat.le_of_ble_eq_true rfl⟩ hK hP hD (kCtx_nil _) rfl hl.1 (Nat.le_of_ble_eq_true rfl) dX7_paceOn_25 ⟨Nat.zero_le _, Nat.zero_le _⟩) hP hD hS hA (kCtx_nil _) (fun _ => rfl) (fun r2 _ H1 locs1 hw hP1 hD1 hS1 => ?_)
    have hr2 : r_X7_max (f 3) (f 13) = r2 := (show r2 = r_X7_max (f 3) (f 13) from hw).symm
    have hP2 : va_P G.1 vwCl ([(h0, .inl (G.2.1, 55, .inl f))]) H1 := hP1
    have hD3 : va_D A ([(h0, .inl (G.2.1, 55, .inl f))]) := hD1
    have er : r_X7_paceOn_0 f = r2 := by rw [r_X7_paceOn_0]; (try rw [hr2]); rw [if_pos c1]
    exact k_iret kx hK hP2 hD3 hS1 (u := ()) rfl er.symm dX7_paceOn_28
  · skip
    refine lv_bipush (v := 9) hx hb dX7_paceOn_9 (by decide) ?_
    refine lv_goto (tgt := 28) hx hb dX7_paceOn_11 (by decide) ?_
    have er : r_X7_paceOn_0 f = 9 := by rw [r_X7_paceOn_0, if_neg c1]
    exact k_iret kx hK hP hD hS (u := ()) rfl er.symm dX7_paceOn_28

def r_X7_paceOn_16 (f : Nat → Int32) : Int32 := if f 21 = 2 then (r_X7_max (f 19) (f 29)) else 9
set_option maxHeartbeats 4000000 in
set_option maxRecDepth 100000 in
theorem c_X7_paceOn_16 (l : Launch) (G : kG) (f : Nat → Int32) (h0 : Nat) : cG l G yX7_paceOn cX7_paceOn 2 (some .int) 1 [.ref h0, .int 16] ([(h0, .inl (G.2.1, 55, .inl f))]) (qI G (fun (r : Int32) (_ : Unit) => r = r_X7_paceOn_16 f) (fun _ => [(h0, .inl (G.2.1, 55, .inl f))])) := by
  refine kintro (by decide) (Nat.le_of_ble_eq_true rfl) ?_
  intro p e s m args below meth c A ls kx hK hP hD hS hA hl
  have kx : kX p s m args meth c cX7_paceOn 2 (some .int) RX7 := kx
  have hx := kx.1
  have hb := kx.2.1
  have hown := kx.2.2.2.2.1
  have ht := kx.2.2.2.2.2.2
  have hl : lv_has ls 2 [(0, .ref h0), (1, .int 16)] := hl
  refine lv_aload_n hx hb dX7_paceOn_0 rfl (lv_at hl 0 rfl) ?_
  refine lv_iload_n hx hb dX7_paceOn_1 rfl (lv_at hl 1 rfl) ?_
  refine lv_iconst (v := 5) hx hb dX7_paceOn_2 (by decide) ?_
  refine lv_iadd hx hb dX7_paceOn_3 ?_
  refine k_top (y := 21) (by decide +kernel) ?_
  refine k_iald (v := (f 21)) kx hK hP 0 rfl 21 rfl (by decide) (by decide) rfl dX7_paceOn_4 ?_
  refine lv_iconst (v := 2) hx hb dX7_paceOn_5 (by decide) ?_
  refine lv_icmp_eq (x := f 21) (y := 2) (tgt := 14) hx hb dX7_paceOn_6 (by decide) (fun (c1 : f 21 = 2) => ?_) (fun (c1 : ¬ (f 21 = 2)) => ?_)
  · skip
    refine lv_aload_n hx hb dX7_paceOn_14 rfl (lv_at hl 0 rfl) ?_
    refine lv_iload_n hx hb dX7_paceOn_15 rfl (lv_at hl 1 rfl) ?_
    refine lv_iconst (v := 3) hx hb dX7_paceOn_16 (by decide) ?_
    refine lv_iadd hx hb dX7_paceOn_17 ?_
    refine k_top (y := 19) (by decide +kernel) ?_
    refine k_iald (v := (f 19)) kx hK hP 0 rfl 19 rfl (by decide) (by decide) rfl dX7_paceOn_18 ?_
    refine lv_aload_n hx hb dX7_paceOn_19 rfl (lv_at hl 0 rfl) ?_
    refine lv_iload_n hx hb dX7_paceOn_20 rfl (lv_at hl 1 rfl) ?_
    refine lv_bipush (v := 13) hx hb dX7_paceOn_21 (by decide) ?_
    refine lv_iadd hx hb dX7_paceOn_23 ?_
    refine k_top (y := 29) (by decide +kernel) ?_
    refine k_iald (v := (f 29)) kx hK hP 0 rfl 29 rfl (by decide) (by decide) rfl dX7_paceOn_24 ?_
    refine k_calli (kRunS (As := [.int (f 19), .int (f 29)]) (rest := []) kx (c_X7_max l G (f 19) (f 29)) q_804 q_802 q_36 q_803 nX7_max ⟨Nat.le_of_ble_eq_true rfl, Nat.le_of_ble_eq_true rfl⟩ hK hP hD (kCtx_nil _) rfl hl.1 (Nat.le_of_ble_eq_true rfl) dX7_paceOn_25 ⟨Nat.zero_le _, Nat.zero_le _⟩) hP hD hS hA (kCtx_nil _) (fun _ => rfl) (fun r2 _ H1 locs1 hw hP1 hD1 hS1 => ?_)
    have hr2 : r_X7_max (f 19) (f 29) = r2 := (show r2 = r_X7_max (f 19) (f 29) from hw).symm
    have hP2 : va_P G.1 vwCl ([(h0, .inl (G.2.1, 55, .inl f))]) H1 := hP1
    have hD3 : va_D A ([(h0, .inl (G.2.1, 55, .inl f))]) := hD1
    have er : r_X7_paceOn_16 f = r2 := by rw [r_X7_paceOn_16]; (try rw [hr2]); rw [if_pos c1]
    exact k_iret kx hK hP2 hD3 hS1 (u := ()) rfl er.symm dX7_paceOn_28
  · skip
    refine lv_bipush (v := 9) hx hb dX7_paceOn_9 (by decide) ?_
    refine lv_goto (tgt := 28) hx hb dX7_paceOn_11 (by decide) ?_
    have er : r_X7_paceOn_16 f = 9 := by rw [r_X7_paceOn_16, if_neg c1]
    exact k_iret kx hK hP hD hS (u := ()) rfl er.symm dX7_paceOn_28

def r_X7_limitOn_0 (f : Nat → Int32) : Int32 := if (r_X7_bothUp_0 f) = 0 then ((f 14) * (r_X7_max (r_X7_max (f 4) (f 12)) 9)) else (f 14) * (r_X7_max (r_X7_max (f 4) (f 12)) 0)
set_option maxHeartbeats 4000000 in
set_option maxRecDepth 100000 in
theorem c_X7_limitOn_0 (l : Launch) (G : kG) (f : Nat → Int32) (h0 : Nat) : cG l G yX7_limitOn cX7_limitOn 2 (some .int) 1 [.ref h0, .int 0] ([(h0, .inl (G.2.1, 55, .inl f))]) (qI G (fun (r : Int32) (_ : Unit) => r = r_X7_limitOn_0 f) (fun _ => [(h0, .inl (G.2.1, 55, .inl f))])) := by
  refine kintro (by decide) (Nat.le_of_ble_eq_true rfl) ?_
  intro p e s m args below meth c A ls kx hK hP hD hS hA hl
  have kx : kX p s m args meth c cX7_limitOn 2 (some .int) RX7 := kx
  have hx := kx.1
  have hb := kx.2.1
  have hown := kx.2.2.2.2.1
  have ht := kx.2.2.2.2.2.2
  have hl : lv_has ls 2 [(0, .ref h0), (1, .int 0)] := hl
  refine lv_aload_n hx hb dX7_limitOn_0 rfl (lv_at hl 0 rfl) ?_
  refine lv_iload_n hx hb dX7_limitOn_1 rfl (lv_at hl 1 rfl) ?_
  refine lv_bipush (v := 14) hx hb dX7_limitOn_2 (by decide) ?_
  refine lv_iadd hx hb dX7_limitOn_4 ?_
  refine k_top (y := 14) (by decide +kernel) ?_
  refine k_iald (v := (f 14)) kx hK hP 0 rfl 14 rfl (by decide) (by decide) rfl dX7_limitOn_5 ?_
  refine lv_aload_n hx hb dX7_limitOn_6 rfl (lv_at hl 0 rfl) ?_
  refine lv_iload_n hx hb dX7_limitOn_7 rfl (lv_at hl 1 rfl) ?_
  refine lv_iconst (v := 4) hx hb dX7_limitOn_8 (by decide) ?_
  refine lv_iadd hx hb dX7_limitOn_9 ?_
  refine k_top (y := 4) (by decide +kernel) ?_
  refine k_iald (v := (f 4)) kx hK hP 0 rfl 4 rfl (by decide) (by decide) rfl dX7_limitOn_10 ?_
  refine lv_aload_n hx hb dX7_limitOn_11 rfl (lv_at hl 0 rfl) ?_
  refine lv_iload_n hx hb dX7_limitOn_12 rfl (lv_at hl 1 rfl) ?_
  refine lv_bipush (v := 12) hx hb dX7_limitOn_13 (by decide) ?_
  refine lv_iadd hx hb dX7_limitOn_15 ?_
  refine k_top (y := 12) (by decide +kernel) ?_
  refine k_iald (v := (f 12)) kx hK hP 0 rfl 12 rfl (by decide) (by decide) rfl dX7_limitOn_16 ?_
  refine k_calli (kRunS (As := [.int (f 4), .int (f 12)]) (rest := [.int (f 14)]) kx (c_X7_max l G (f 4) (f 12)) q_804 q_802 q_36 q_803 nX7_max ⟨Nat.le_of_ble_eq_true rfl, Nat.le_of_ble_eq_true rfl⟩ hK hP hD (kCtx_nil _) rfl hl.1 (Nat.le_of_ble_eq_true rfl) dX7_limitOn_17 ⟨Nat.zero_le _, Nat.zero_le _⟩) hP hD hS hA (kCtx_nil _) (fun _ => rfl) (fun r1 _ H1 locs1 hw hP1 hD1 hS1 => ?_)
  have hr1 : r_X7_max (f 4) (f 12) = r1 := (show r1 = r_X7_max (f 4) (f 12) from hw).symm
  have hP2 : va_P G.1 vwCl ([(h0, .inl (G.2.1, 55, .inl f))]) H1 := hP1
  have hD3 : va_D A ([(h0, .inl (G.2.1, 55, .inl f))]) := hD1
  refine lv_aload_n hx hb dX7_limitOn_20 rfl (lv_at hl 0 rfl) ?_
  refine lv_iload_n hx hb dX7_limitOn_21 rfl (lv_at hl 1 rfl) ?_
  refine k_calli (kRunS (As := [.ref h0, .int 0]) (rest := [.int r1, .int (f 14)]) kx (c_X7_bothUp_0 l G f h0) q_798 q_796 q_36 q_797 nX7_bothUp ⟨Nat.le_of_ble_eq_true rfl, Nat.le_of_ble_eq_true rfl⟩ hK hP2 hD3 (kCtx_all _) rfl hl.1 (Nat.le_of_ble_eq_true rfl) dX7_limitOn_22 ⟨Nat.zero_le _, Nat.zero_le _⟩) hP2 hD3 hS1 hA (kCtx_all _) (fun _ => rfl) (fun r2 _ H4 locs4 hw hP4 hD4 hS4 => ?_)
  have hr2 : r_X7_bothUp_0 f = r2 := (show r2 = r_X7_bothUp_0 f from hw).symm
  have hP5 : va_P G.1 vwCl ([(h0, .inl (G.2.1, 55, .inl f))]) H4 := hP4
  have hD6 : va_D A ([(h0, .inl (G.2.1, 55, .inl f))]) := hD4
  refine lv_if_eq (x := r2) (tgt := 32) hx hb dX7_limitOn_25 (by decide) (fun (c3 : r2 = 0) => ?_) (fun (c3 : ¬ (r2 = 0)) => ?_)
  · skip
    refine lv_bipush (v := 9) hx hb dX7_limitOn_32 (by decide) ?_
    refine k_calli (kRunS (As := [.int r1, .int 9]) (rest := [.int (f 14)]) kx (c_X7_max l G r1 9) q_804 q_802 q_36 q_803 nX7_max ⟨Nat.le_of_ble_eq_true rfl, Nat.le_of_ble_eq_true rfl⟩ hK hP5 hD6 (kCtx_nil _) rfl hl.1 (Nat.le_of_ble_eq_true rfl) dX7_limitOn_34 ⟨Nat.zero_le _, Nat.zero_le _⟩) hP5 hD6 hS4 hA (kCtx_nil _) (fun _ => rfl) (fun r4 _ H7 locs7 hw hP7 hD7 hS7 => ?_)
    have hr4 : r_X7_max r1 9 = r4 := (show r4 = r_X7_max r1 9 from hw).symm
    have hP8 : va_P G.1 vwCl ([(h0, .inl (G.2.1, 55, .inl f))]) H7 := hP7
    have hD9 : va_D A ([(h0, .inl (G.2.1, 55, .inl f))]) := hD7
    refine lv_imul hx hb dX7_limitOn_37 ?_
    have er : r_X7_limitOn_0 f = (f 14) * r4 := by rw [r_X7_limitOn_0]; (try rw [hr1]); (try rw [hr2]); (try rw [hr4]); rw [if_pos c3]
    exact k_iret kx hK hP8 hD9 hS7 (u := ()) rfl er.symm dX7_limitOn_38
  · skip
    refine lv_iconst (v := 0) hx hb dX7_limitOn_28 (by decide) ?_
    refine lv_goto (tgt := 34) hx hb dX7_limitOn_29 (by decide) ?_
    refine k_calli (kRunS (As := [.int r1, .int 0]) (rest := [.int (f 14)]) kx (c_X7_max l G r1 0) q_804 q_802 q_36 q_803 nX7_max ⟨Nat.le_of_ble_eq_true rfl, Nat.le_of_ble_eq_true rfl⟩ hK hP5 hD6 (kCtx_nil _) rfl hl.1 (Nat.le_of_ble_eq_true rfl) dX7_limitOn_34 ⟨Nat.zero_le _, Nat.zero_le _⟩) hP5 hD6 hS4 hA (kCtx_nil _) (fun _ => rfl) (fun r5 _ H10 locs10 hw hP10 hD10 hS10 => ?_)
    have hr5 : r_X7_max r1 0 = r5 := (show r5 = r_X7_max r1 0 from hw).symm
    have hP11 : va_P G.1 vwCl ([(h0, .inl (G.2.1, 55, .inl f))]) H10 := hP10
    have hD12 : va_D A ([(h0, .inl (G.2.1, 55, .inl f))]) := hD10
    refine lv_imul hx hb dX7_limitOn_37 ?_
    have er : r_X7_limitOn_0 f = (f 14) * r5 := by rw [r_X7_limitOn_0]; (try rw [hr1]); (try rw [hr2]); (try rw [hr5]); rw [if_neg c3]
    exact k_iret kx hK hP11 hD12 hS10 (u := ()) rfl er.symm dX7_limitOn_38

def r_X7_limitOn_16 (f : Nat → Int32) : Int32 := if (r_X7_bothUp_16 f) = 0 then ((f 30) * (r_X7_max (r_X7_max (f 20) (f 28)) 9)) else (f 30) * (r_X7_max (r_X7_max (f 20) (f 28)) 0)
set_option maxHeartbeats 4000000 in
set_option maxRecDepth 100000 in
theorem c_X7_limitOn_16 (l : Launch) (G : kG) (f : Nat → Int32) (h0 : Nat) : cG l G yX7_limitOn cX7_limitOn 2 (some .int) 1 [.ref h0, .int 16] ([(h0, .inl (G.2.1, 55, .inl f))]) (qI G (fun (r : Int32) (_ : Unit) => r = r_X7_limitOn_16 f) (fun _ => [(h0, .inl (G.2.1, 55, .inl f))])) := by
  refine kintro (by decide) (Nat.le_of_ble_eq_true rfl) ?_
  intro p e s m args below meth c A ls kx hK hP hD hS hA hl
  have kx : kX p s m args meth c cX7_limitOn 2 (some .int) RX7 := kx
  have hx := kx.1
  have hb := kx.2.1
  have hown := kx.2.2.2.2.1
  have ht := kx.2.2.2.2.2.2
  have hl : lv_has ls 2 [(0, .ref h0), (1, .int 16)] := hl
  refine lv_aload_n hx hb dX7_limitOn_0 rfl (lv_at hl 0 rfl) ?_
  refine lv_iload_n hx hb dX7_limitOn_1 rfl (lv_at hl 1 rfl) ?_
  refine lv_bipush (v := 14) hx hb dX7_limitOn_2 (by decide) ?_
  refine lv_iadd hx hb dX7_limitOn_4 ?_
  refine k_top (y := 30) (by decide +kernel) ?_
  refine k_iald (v := (f 30)) kx hK hP 0 rfl 30 rfl (by decide) (by decide) rfl dX7_limitOn_5 ?_
  refine lv_aload_n hx hb dX7_limitOn_6 rfl (lv_at hl 0 rfl) ?_
  refine lv_iload_n hx hb dX7_limitOn_7 rfl (lv_at hl 1 rfl) ?_
  refine lv_iconst (v := 4) hx hb dX7_limitOn_8 (by decide) ?_
  refine lv_iadd hx hb dX7_limitOn_9 ?_
  refine k_top (y := 20) (by decide +kernel) ?_
  refine k_iald (v := (f 20)) kx hK hP 0 rfl 20 rfl (by decide) (by decide) rfl dX7_limitOn_10 ?_
  refine lv_aload_n hx hb dX7_limitOn_11 rfl (lv_at hl 0 rfl) ?_
  refine lv_iload_n hx hb dX7_limitOn_12 rfl (lv_at hl 1 rfl) ?_
  refine lv_bipush (v := 12) hx hb dX7_limitOn_13 (by decide) ?_
  refine lv_iadd hx hb dX7_limitOn_15 ?_
  refine k_top (y := 28) (by decide +kernel) ?_
  refine k_iald (v := (f 28)) kx hK hP 0 rfl 28 rfl (by decide) (by decide) rfl dX7_limitOn_16 ?_
  refine k_calli (kRunS (As := [.int (f 20), .int (f 28)]) (rest := [.int (f 30)]) kx (c_X7_max l G (f 20) (f 28)) q_804 q_802 q_36 q_803 nX7_max ⟨Nat.le_of_ble_eq_true rfl, Nat.le_of_ble_eq_true rfl⟩ hK hP hD (kCtx_nil _) rfl hl.1 (Nat.le_of_ble_eq_true rfl) dX7_limitOn_17 ⟨Nat.zero_le _, Nat.zero_le _⟩) hP hD hS hA (kCtx_nil _) (fun _ => rfl) (fun r1 _ H1 locs1 hw hP1 hD1 hS1 => ?_)
  have hr1 : r_X7_max (f 20) (f 28) = r1 := (show r1 = r_X7_max (f 20) (f 28) from hw).symm
  have hP2 : va_P G.1 vwCl ([(h0, .inl (G.2.1, 55, .inl f))]) H1 := hP1
  have hD3 : va_D A ([(h0, .inl (G.2.1, 55, .inl f))]) := hD1
  refine lv_aload_n hx hb dX7_limitOn_20 rfl (lv_at hl 0 rfl) ?_
  refine lv_iload_n hx hb dX7_limitOn_21 rfl (lv_at hl 1 rfl) ?_
  refine k_calli (kRunS (As := [.ref h0, .int 16]) (rest := [.int r1, .int (f 30)]) kx (c_X7_bothUp_16 l G f h0) q_798 q_796 q_36 q_797 nX7_bothUp ⟨Nat.le_of_ble_eq_true rfl, Nat.le_of_ble_eq_true rfl⟩ hK hP2 hD3 (kCtx_all _) rfl hl.1 (Nat.le_of_ble_eq_true rfl) dX7_limitOn_22 ⟨Nat.zero_le _, Nat.zero_le _⟩) hP2 hD3 hS1 hA (kCtx_all _) (fun _ => rfl) (fun r2 _ H4 locs4 hw hP4 hD4 hS4 => ?_)
  have hr2 : r_X7_bothUp_16 f = r2 := (show r2 = r_X7_bothUp_16 f from hw).symm
  have hP5 : va_P G.1 vwCl ([(h0, .inl (G.2.1, 55, .inl f))]) H4 := hP4
  have hD6 : va_D A ([(h0, .inl (G.2.1, 55, .inl f))]) := hD4
  refine lv_if_eq (x := r2) (tgt := 32) hx hb dX7_limitOn_25 (by decide) (fun (c3 : r2 = 0) => ?_) (fun (c3 : ¬ (r2 = 0)) => ?_)
  · skip
    refine lv_bipush (v := 9) hx hb dX7_limitOn_32 (by decide) ?_
    refine k_calli (kRunS (As := [.int r1, .int 9]) (rest := [.int (f 30)]) kx (c_X7_max l G r1 9) q_804 q_802 q_36 q_803 nX7_max ⟨Nat.le_of_ble_eq_true rfl, Nat.le_of_ble_eq_true rfl⟩ hK hP5 hD6 (kCtx_nil _) rfl hl.1 (Nat.le_of_ble_eq_true rfl) dX7_limitOn_34 ⟨Nat.zero_le _, Nat.zero_le _⟩) hP5 hD6 hS4 hA (kCtx_nil _) (fun _ => rfl) (fun r4 _ H7 locs7 hw hP7 hD7 hS7 => ?_)
    have hr4 : r_X7_max r1 9 = r4 := (show r4 = r_X7_max r1 9 from hw).symm
    have hP8 : va_P G.1 vwCl ([(h0, .inl (G.2.1, 55, .inl f))]) H7 := hP7
    have hD9 : va_D A ([(h0, .inl (G.2.1, 55, .inl f))]) := hD7
    refine lv_imul hx hb dX7_limitOn_37 ?_
    have er : r_X7_limitOn_16 f = (f 30) * r4 := by rw [r_X7_limitOn_16]; (try rw [hr1]); (try rw [hr2]); (try rw [hr4]); rw [if_pos c3]
    exact k_iret kx hK hP8 hD9 hS7 (u := ()) rfl er.symm dX7_limitOn_38
  · skip
    refine lv_iconst (v := 0) hx hb dX7_limitOn_28 (by decide) ?_
    refine lv_goto (tgt := 34) hx hb dX7_limitOn_29 (by decide) ?_
    refine k_calli (kRunS (As := [.int r1, .int 0]) (rest := [.int (f 30)]) kx (c_X7_max l G r1 0) q_804 q_802 q_36 q_803 nX7_max ⟨Nat.le_of_ble_eq_true rfl, Nat.le_of_ble_eq_true rfl⟩ hK hP5 hD6 (kCtx_nil _) rfl hl.1 (Nat.le_of_ble_eq_true rfl) dX7_limitOn_34 ⟨Nat.zero_le _, Nat.zero_le _⟩) hP5 hD6 hS4 hA (kCtx_nil _) (fun _ => rfl) (fun r5 _ H10 locs10 hw hP10 hD10 hS10 => ?_)
    have hr5 : r_X7_max r1 0 = r5 := (show r5 = r_X7_max r1 0 from hw).symm
    have hP11 : va_P G.1 vwCl ([(h0, .inl (G.2.1, 55, .inl f))]) H10 := hP10
    have hD12 : va_D A ([(h0, .inl (G.2.1, 55, .inl f))]) := hD10
    refine lv_imul hx hb dX7_limitOn_37 ?_
    have er : r_X7_limitOn_16 f = (f 30) * r5 := by rw [r_X7_limitOn_16]; (try rw [hr1]); (try rw [hr2]); (try rw [hr5]); rw [if_neg c3]
    exact k_iret kx hK hP11 hD12 hS10 (u := ()) rfl er.symm dX7_limitOn_38

def r_X7_isStill_0 (f : Nat → Int32) : Int32 := if f 15 = 1 then (if (r_X7_bothUp_0 f) = 0 then 0 else if f 6 = 0 then 1 else 0) else 0
set_option maxHeartbeats 4000000 in
set_option maxRecDepth 100000 in
theorem c_X7_isStill_0 (l : Launch) (G : kG) (f : Nat → Int32) (h0 : Nat) : cG l G yX7_isStill cX7_isStill 2 (some .boolean) 1 [.ref h0, .int 0] ([(h0, .inl (G.2.1, 55, .inl f))]) (qI G (fun (r : Int32) (_ : Unit) => r = r_X7_isStill_0 f) (fun _ => [(h0, .inl (G.2.1, 55, .inl f))])) := by
  refine kintro (by decide) (Nat.le_of_ble_eq_true rfl) ?_
  intro p e s m args below meth c A ls kx hK hP hD hS hA hl
  have kx : kX p s m args meth c cX7_isStill 2 (some .boolean) RX7 := kx
  have hx := kx.1
  have hb := kx.2.1
  have hown := kx.2.2.2.2.1
  have ht := kx.2.2.2.2.2.2
  have hl : lv_has ls 2 [(0, .ref h0), (1, .int 0)] := hl
  refine lv_aload_n hx hb dX7_isStill_0 rfl (lv_at hl 0 rfl) ?_
  refine lv_iload_n hx hb dX7_isStill_1 rfl (lv_at hl 1 rfl) ?_
  refine lv_bipush (v := 15) hx hb dX7_isStill_2 (by decide) ?_
  refine lv_iadd hx hb dX7_isStill_4 ?_
  refine k_top (y := 15) (by decide +kernel) ?_
  refine k_iald (v := (f 15)) kx hK hP 0 rfl 15 rfl (by decide) (by decide) rfl dX7_isStill_5 ?_
  refine lv_iconst (v := 1) hx hb dX7_isStill_6 (by decide) ?_
  refine lv_icmp_ne (x := f 15) (y := 1) (tgt := 31) hx hb dX7_isStill_7 (by decide) (fun (c1 : ¬ (f 15 = 1)) => ?_) (fun (c1 : f 15 = 1) => ?_)
  · skip
    refine lv_iconst (v := 0) hx hb dX7_isStill_31 (by decide) ?_
    have er : r_X7_isStill_0 f = 0 := by rw [r_X7_isStill_0, if_neg c1]
    exact k_zret kx hK hP hD hS (u := ()) rfl er.symm kb0 dX7_isStill_32
  · skip
    refine lv_aload_n hx hb dX7_isStill_10 rfl (lv_at hl 0 rfl) ?_
    refine lv_iload_n hx hb dX7_isStill_11 rfl (lv_at hl 1 rfl) ?_
    refine k_calli (kRunS (As := [.ref h0, .int 0]) (rest := []) kx (c_X7_bothUp_0 l G f h0) q_798 q_796 q_36 q_797 nX7_bothUp ⟨Nat.le_of_ble_eq_true rfl, Nat.le_of_ble_eq_true rfl⟩ hK hP hD (kCtx_all _) rfl hl.1 (Nat.le_of_ble_eq_true rfl) dX7_isStill_12 ⟨Nat.zero_le _, Nat.zero_le _⟩) hP hD hS hA (kCtx_all _) (fun _ => rfl) (fun r2 _ H1 locs1 hw hP1 hD1 hS1 => ?_)
    have hr2 : r_X7_bothUp_0 f = r2 := (show r2 = r_X7_bothUp_0 f from hw).symm
    have hP2 : va_P G.1 vwCl ([(h0, .inl (G.2.1, 55, .inl f))]) H1 := hP1
    have hD3 : va_D A ([(h0, .inl (G.2.1, 55, .inl f))]) := hD1
    refine lv_if_eq (x := r2) (tgt := 31) hx hb dX7_isStill_15 (by decide) (fun (c3 : r2 = 0) => ?_) (fun (c3 : ¬ (r2 = 0)) => ?_)
    · skip
      refine lv_iconst (v := 0) hx hb dX7_isStill_31 (by decide) ?_
      have er : r_X7_isStill_0 f = 0 := by rw [r_X7_isStill_0]; (try rw [hr2]); rw [if_pos c1, if_pos c3]
      exact k_zret kx hK hP2 hD3 hS1 (u := ()) rfl er.symm kb0 dX7_isStill_32
    · skip
      refine lv_aload_n hx hb dX7_isStill_18 rfl (lv_at hl 0 rfl) ?_
      refine lv_iload_n hx hb dX7_isStill_19 rfl (lv_at hl 1 rfl) ?_
      refine lv_bipush (v := 6) hx hb dX7_isStill_20 (by decide) ?_
      refine lv_iadd hx hb dX7_isStill_22 ?_
      refine k_top (y := 6) (by decide +kernel) ?_
      refine k_iald (v := (f 6)) kx hK hP2 0 rfl 6 rfl (by decide) (by decide) rfl dX7_isStill_23 ?_
      refine lv_if_ne (x := f 6) (tgt := 31) hx hb dX7_isStill_24 (by decide) (fun (c4 : ¬ (f 6 = 0)) => ?_) (fun (c4 : f 6 = 0) => ?_)
      · skip
        refine lv_iconst (v := 0) hx hb dX7_isStill_31 (by decide) ?_
        have er : r_X7_isStill_0 f = 0 := by rw [r_X7_isStill_0]; (try rw [hr2]); rw [if_pos c1, if_neg c3, if_neg c4]
        exact k_zret kx hK hP2 hD3 hS1 (u := ()) rfl er.symm kb0 dX7_isStill_32
      · skip
        refine lv_iconst (v := 1) hx hb dX7_isStill_27 (by decide) ?_
        refine lv_goto (tgt := 32) hx hb dX7_isStill_28 (by decide) ?_
        have er : r_X7_isStill_0 f = 1 := by rw [r_X7_isStill_0]; (try rw [hr2]); rw [if_pos c1, if_neg c3, if_pos c4]
        exact k_zret kx hK hP2 hD3 hS1 (u := ()) rfl er.symm kb1 dX7_isStill_32
theorem kbr_X7_isStill_0 (f : Nat → Int32) : kb (r_X7_isStill_0 f) := by
  unfold r_X7_isStill_0
  repeat' split
  all_goals first | exact kb0 | exact kb1

def r_X7_isStill_16 (f : Nat → Int32) : Int32 := if f 31 = 1 then (if (r_X7_bothUp_16 f) = 0 then 0 else if f 22 = 0 then 1 else 0) else 0
set_option maxHeartbeats 4000000 in
set_option maxRecDepth 100000 in
theorem c_X7_isStill_16 (l : Launch) (G : kG) (f : Nat → Int32) (h0 : Nat) : cG l G yX7_isStill cX7_isStill 2 (some .boolean) 1 [.ref h0, .int 16] ([(h0, .inl (G.2.1, 55, .inl f))]) (qI G (fun (r : Int32) (_ : Unit) => r = r_X7_isStill_16 f) (fun _ => [(h0, .inl (G.2.1, 55, .inl f))])) := by
  refine kintro (by decide) (Nat.le_of_ble_eq_true rfl) ?_
  intro p e s m args below meth c A ls kx hK hP hD hS hA hl
  have kx : kX p s m args meth c cX7_isStill 2 (some .boolean) RX7 := kx
  have hx := kx.1
  have hb := kx.2.1
  have hown := kx.2.2.2.2.1
  have ht := kx.2.2.2.2.2.2
  have hl : lv_has ls 2 [(0, .ref h0), (1, .int 16)] := hl
  refine lv_aload_n hx hb dX7_isStill_0 rfl (lv_at hl 0 rfl) ?_
  refine lv_iload_n hx hb dX7_isStill_1 rfl (lv_at hl 1 rfl) ?_
  refine lv_bipush (v := 15) hx hb dX7_isStill_2 (by decide) ?_
  refine lv_iadd hx hb dX7_isStill_4 ?_
  refine k_top (y := 31) (by decide +kernel) ?_
  refine k_iald (v := (f 31)) kx hK hP 0 rfl 31 rfl (by decide) (by decide) rfl dX7_isStill_5 ?_
  refine lv_iconst (v := 1) hx hb dX7_isStill_6 (by decide) ?_
  refine lv_icmp_ne (x := f 31) (y := 1) (tgt := 31) hx hb dX7_isStill_7 (by decide) (fun (c1 : ¬ (f 31 = 1)) => ?_) (fun (c1 : f 31 = 1) => ?_)
  · skip
    refine lv_iconst (v := 0) hx hb dX7_isStill_31 (by decide) ?_
    have er : r_X7_isStill_16 f = 0 := by rw [r_X7_isStill_16, if_neg c1]
    exact k_zret kx hK hP hD hS (u := ()) rfl er.symm kb0 dX7_isStill_32
  · skip
    refine lv_aload_n hx hb dX7_isStill_10 rfl (lv_at hl 0 rfl) ?_
    refine lv_iload_n hx hb dX7_isStill_11 rfl (lv_at hl 1 rfl) ?_
    refine k_calli (kRunS (As := [.ref h0, .int 16]) (rest := []) kx (c_X7_bothUp_16 l G f h0) q_798 q_796 q_36 q_797 nX7_bothUp ⟨Nat.le_of_ble_eq_true rfl, Nat.le_of_ble_eq_true rfl⟩ hK hP hD (kCtx_all _) rfl hl.1 (Nat.le_of_ble_eq_true rfl) dX7_isStill_12 ⟨Nat.zero_le _, Nat.zero_le _⟩) hP hD hS hA (kCtx_all _) (fun _ => rfl) (fun r2 _ H1 locs1 hw hP1 hD1 hS1 => ?_)
    have hr2 : r_X7_bothUp_16 f = r2 := (show r2 = r_X7_bothUp_16 f from hw).symm
    have hP2 : va_P G.1 vwCl ([(h0, .inl (G.2.1, 55, .inl f))]) H1 := hP1
    have hD3 : va_D A ([(h0, .inl (G.2.1, 55, .inl f))]) := hD1
    refine lv_if_eq (x := r2) (tgt := 31) hx hb dX7_isStill_15 (by decide) (fun (c3 : r2 = 0) => ?_) (fun (c3 : ¬ (r2 = 0)) => ?_)
    · skip
      refine lv_iconst (v := 0) hx hb dX7_isStill_31 (by decide) ?_
      have er : r_X7_isStill_16 f = 0 := by rw [r_X7_isStill_16]; (try rw [hr2]); rw [if_pos c1, if_pos c3]
      exact k_zret kx hK hP2 hD3 hS1 (u := ()) rfl er.symm kb0 dX7_isStill_32
    · skip
      refine lv_aload_n hx hb dX7_isStill_18 rfl (lv_at hl 0 rfl) ?_
      refine lv_iload_n hx hb dX7_isStill_19 rfl (lv_at hl 1 rfl) ?_
      refine lv_bipush (v := 6) hx hb dX7_isStill_20 (by decide) ?_
      refine lv_iadd hx hb dX7_isStill_22 ?_
      refine k_top (y := 22) (by decide +kernel) ?_
      refine k_iald (v := (f 22)) kx hK hP2 0 rfl 22 rfl (by decide) (by decide) rfl dX7_isStill_23 ?_
      refine lv_if_ne (x := f 22) (tgt := 31) hx hb dX7_isStill_24 (by decide) (fun (c4 : ¬ (f 22 = 0)) => ?_) (fun (c4 : f 22 = 0) => ?_)
      · skip
        refine lv_iconst (v := 0) hx hb dX7_isStill_31 (by decide) ?_
        have er : r_X7_isStill_16 f = 0 := by rw [r_X7_isStill_16]; (try rw [hr2]); rw [if_pos c1, if_neg c3, if_neg c4]
        exact k_zret kx hK hP2 hD3 hS1 (u := ()) rfl er.symm kb0 dX7_isStill_32
      · skip
        refine lv_iconst (v := 1) hx hb dX7_isStill_27 (by decide) ?_
        refine lv_goto (tgt := 32) hx hb dX7_isStill_28 (by decide) ?_
        have er : r_X7_isStill_16 f = 1 := by rw [r_X7_isStill_16]; (try rw [hr2]); rw [if_pos c1, if_neg c3, if_pos c4]
        exact k_zret kx hK hP2 hD3 hS1 (u := ()) rfl er.symm kb1 dX7_isStill_32
theorem kbr_X7_isStill_16 (f : Nat → Int32) : kb (r_X7_isStill_16 f) := by
  unfold r_X7_isStill_16
  repeat' split
  all_goals first | exact kb0 | exact kb1

def r_X7_trusts_0 (f : Nat → Int32) : Int32 := if f 7 = 1 then (if (r_X7_bothUp_0 f) = 0 then 0 else if f 6 = 0 then 1 else 0) else 0
set_option maxHeartbeats 4000000 in
set_option maxRecDepth 100000 in
theorem c_X7_trusts_0 (l : Launch) (G : kG) (f : Nat → Int32) (h0 : Nat) : cG l G yX7_trusts cX7_trusts 2 (some .boolean) 1 [.ref h0, .int 0] ([(h0, .inl (G.2.1, 55, .inl f))]) (qI G (fun (r : Int32) (_ : Unit) => r = r_X7_trusts_0 f) (fun _ => [(h0, .inl (G.2.1, 55, .inl f))])) := by
  refine kintro (by decide) (Nat.le_of_ble_eq_true rfl) ?_
  intro p e s m args below meth c A ls kx hK hP hD hS hA hl
  have kx : kX p s m args meth c cX7_trusts 2 (some .boolean) RX7 := kx
  have hx := kx.1
  have hb := kx.2.1
  have hown := kx.2.2.2.2.1
  have ht := kx.2.2.2.2.2.2
  have hl : lv_has ls 2 [(0, .ref h0), (1, .int 0)] := hl
  refine lv_aload_n hx hb dX7_trusts_0 rfl (lv_at hl 0 rfl) ?_
  refine lv_iload_n hx hb dX7_trusts_1 rfl (lv_at hl 1 rfl) ?_
  refine lv_bipush (v := 7) hx hb dX7_trusts_2 (by decide) ?_
  refine lv_iadd hx hb dX7_trusts_4 ?_
  refine k_top (y := 7) (by decide +kernel) ?_
  refine k_iald (v := (f 7)) kx hK hP 0 rfl 7 rfl (by decide) (by decide) rfl dX7_trusts_5 ?_
  refine lv_iconst (v := 1) hx hb dX7_trusts_6 (by decide) ?_
  refine lv_icmp_ne (x := f 7) (y := 1) (tgt := 31) hx hb dX7_trusts_7 (by decide) (fun (c1 : ¬ (f 7 = 1)) => ?_) (fun (c1 : f 7 = 1) => ?_)
  · skip
    refine lv_iconst (v := 0) hx hb dX7_trusts_31 (by decide) ?_
    have er : r_X7_trusts_0 f = 0 := by rw [r_X7_trusts_0, if_neg c1]
    exact k_zret kx hK hP hD hS (u := ()) rfl er.symm kb0 dX7_trusts_32
  · skip
    refine lv_aload_n hx hb dX7_trusts_10 rfl (lv_at hl 0 rfl) ?_
    refine lv_iload_n hx hb dX7_trusts_11 rfl (lv_at hl 1 rfl) ?_
    refine k_calli (kRunS (As := [.ref h0, .int 0]) (rest := []) kx (c_X7_bothUp_0 l G f h0) q_798 q_796 q_36 q_797 nX7_bothUp ⟨Nat.le_of_ble_eq_true rfl, Nat.le_of_ble_eq_true rfl⟩ hK hP hD (kCtx_all _) rfl hl.1 (Nat.le_of_ble_eq_true rfl) dX7_trusts_12 ⟨Nat.zero_le _, Nat.zero_le _⟩) hP hD hS hA (kCtx_all _) (fun _ => rfl) (fun r2 _ H1 locs1 hw hP1 hD1 hS1 => ?_)
    have hr2 : r_X7_bothUp_0 f = r2 := (show r2 = r_X7_bothUp_0 f from hw).symm
    have hP2 : va_P G.1 vwCl ([(h0, .inl (G.2.1, 55, .inl f))]) H1 := hP1
    have hD3 : va_D A ([(h0, .inl (G.2.1, 55, .inl f))]) := hD1
    refine lv_if_eq (x := r2) (tgt := 31) hx hb dX7_trusts_15 (by decide) (fun (c3 : r2 = 0) => ?_) (fun (c3 : ¬ (r2 = 0)) => ?_)
    · skip
      refine lv_iconst (v := 0) hx hb dX7_trusts_31 (by decide) ?_
      have er : r_X7_trusts_0 f = 0 := by rw [r_X7_trusts_0]; (try rw [hr2]); rw [if_pos c1, if_pos c3]
      exact k_zret kx hK hP2 hD3 hS1 (u := ()) rfl er.symm kb0 dX7_trusts_32
    · skip
      refine lv_aload_n hx hb dX7_trusts_18 rfl (lv_at hl 0 rfl) ?_
      refine lv_iload_n hx hb dX7_trusts_19 rfl (lv_at hl 1 rfl) ?_
      refine lv_bipush (v := 6) hx hb dX7_trusts_20 (by decide) ?_
      refine lv_iadd hx hb dX7_trusts_22 ?_
      refine k_top (y := 6) (by decide +kernel) ?_
      refine k_iald (v := (f 6)) kx hK hP2 0 rfl 6 rfl (by decide) (by decide) rfl dX7_trusts_23 ?_
      refine lv_if_ne (x := f 6) (tgt := 31) hx hb dX7_trusts_24 (by decide) (fun (c4 : ¬ (f 6 = 0)) => ?_) (fun (c4 : f 6 = 0) => ?_)
      · skip
        refine lv_iconst (v := 0) hx hb dX7_trusts_31 (by decide) ?_
        have er : r_X7_trusts_0 f = 0 := by rw [r_X7_trusts_0]; (try rw [hr2]); rw [if_pos c1, if_neg c3, if_neg c4]
        exact k_zret kx hK hP2 hD3 hS1 (u := ()) rfl er.symm kb0 dX7_trusts_32
      · skip
        refine lv_iconst (v := 1) hx hb dX7_trusts_27 (by decide) ?_
        refine lv_goto (tgt := 32) hx hb dX7_trusts_28 (by decide) ?_
        have er : r_X7_trusts_0 f = 1 := by rw [r_X7_trusts_0]; (try rw [hr2]); rw [if_pos c1, if_neg c3, if_pos c4]
        exact k_zret kx hK hP2 hD3 hS1 (u := ()) rfl er.symm kb1 dX7_trusts_32
theorem kbr_X7_trusts_0 (f : Nat → Int32) : kb (r_X7_trusts_0 f) := by
  unfold r_X7_trusts_0
  repeat' split
  all_goals first | exact kb0 | exact kb1

def r_X7_trusts_16 (f : Nat → Int32) : Int32 := if f 23 = 1 then (if (r_X7_bothUp_16 f) = 0 then 0 else if f 22 = 0 then 1 else 0) else 0
set_option maxHeartbeats 4000000 in
set_option maxRecDepth 100000 in
theorem c_X7_trusts_16 (l : Launch) (G : kG) (f : Nat → Int32) (h0 : Nat) : cG l G yX7_trusts cX7_trusts 2 (some .boolean) 1 [.ref h0, .int 16] ([(h0, .inl (G.2.1, 55, .inl f))]) (qI G (fun (r : Int32) (_ : Unit) => r = r_X7_trusts_16 f) (fun _ => [(h0, .inl (G.2.1, 55, .inl f))])) := by
  refine kintro (by decide) (Nat.le_of_ble_eq_true rfl) ?_
  intro p e s m args below meth c A ls kx hK hP hD hS hA hl
  have kx : kX p s m args meth c cX7_trusts 2 (some .boolean) RX7 := kx
  have hx := kx.1
  have hb := kx.2.1
  have hown := kx.2.2.2.2.1
  have ht := kx.2.2.2.2.2.2
  have hl : lv_has ls 2 [(0, .ref h0), (1, .int 16)] := hl
  refine lv_aload_n hx hb dX7_trusts_0 rfl (lv_at hl 0 rfl) ?_
  refine lv_iload_n hx hb dX7_trusts_1 rfl (lv_at hl 1 rfl) ?_
  refine lv_bipush (v := 7) hx hb dX7_trusts_2 (by decide) ?_
  refine lv_iadd hx hb dX7_trusts_4 ?_
  refine k_top (y := 23) (by decide +kernel) ?_
  refine k_iald (v := (f 23)) kx hK hP 0 rfl 23 rfl (by decide) (by decide) rfl dX7_trusts_5 ?_
  refine lv_iconst (v := 1) hx hb dX7_trusts_6 (by decide) ?_
  refine lv_icmp_ne (x := f 23) (y := 1) (tgt := 31) hx hb dX7_trusts_7 (by decide) (fun (c1 : ¬ (f 23 = 1)) => ?_) (fun (c1 : f 23 = 1) => ?_)
  · skip
    refine lv_iconst (v := 0) hx hb dX7_trusts_31 (by decide) ?_
    have er : r_X7_trusts_16 f = 0 := by rw [r_X7_trusts_16, if_neg c1]
    exact k_zret kx hK hP hD hS (u := ()) rfl er.symm kb0 dX7_trusts_32
  · skip
    refine lv_aload_n hx hb dX7_trusts_10 rfl (lv_at hl 0 rfl) ?_
    refine lv_iload_n hx hb dX7_trusts_11 rfl (lv_at hl 1 rfl) ?_
    refine k_calli (kRunS (As := [.ref h0, .int 16]) (rest := []) kx (c_X7_bothUp_16 l G f h0) q_798 q_796 q_36 q_797 nX7_bothUp ⟨Nat.le_of_ble_eq_true rfl, Nat.le_of_ble_eq_true rfl⟩ hK hP hD (kCtx_all _) rfl hl.1 (Nat.le_of_ble_eq_true rfl) dX7_trusts_12 ⟨Nat.zero_le _, Nat.zero_le _⟩) hP hD hS hA (kCtx_all _) (fun _ => rfl) (fun r2 _ H1 locs1 hw hP1 hD1 hS1 => ?_)
    have hr2 : r_X7_bothUp_16 f = r2 := (show r2 = r_X7_bothUp_16 f from hw).symm
    have hP2 : va_P G.1 vwCl ([(h0, .inl (G.2.1, 55, .inl f))]) H1 := hP1
    have hD3 : va_D A ([(h0, .inl (G.2.1, 55, .inl f))]) := hD1
    refine lv_if_eq (x := r2) (tgt := 31) hx hb dX7_trusts_15 (by decide) (fun (c3 : r2 = 0) => ?_) (fun (c3 : ¬ (r2 = 0)) => ?_)
    · skip
      refine lv_iconst (v := 0) hx hb dX7_trusts_31 (by decide) ?_
      have er : r_X7_trusts_16 f = 0 := by rw [r_X7_trusts_16]; (try rw [hr2]); rw [if_pos c1, if_pos c3]
      exact k_zret kx hK hP2 hD3 hS1 (u := ()) rfl er.symm kb0 dX7_trusts_32
    · skip
      refine lv_aload_n hx hb dX7_trusts_18 rfl (lv_at hl 0 rfl) ?_
      refine lv_iload_n hx hb dX7_trusts_19 rfl (lv_at hl 1 rfl) ?_
      refine lv_bipush (v := 6) hx hb dX7_trusts_20 (by decide) ?_
      refine lv_iadd hx hb dX7_trusts_22 ?_
      refine k_top (y := 22) (by decide +kernel) ?_
      refine k_iald (v := (f 22)) kx hK hP2 0 rfl 22 rfl (by decide) (by decide) rfl dX7_trusts_23 ?_
      refine lv_if_ne (x := f 22) (tgt := 31) hx hb dX7_trusts_24 (by decide) (fun (c4 : ¬ (f 22 = 0)) => ?_) (fun (c4 : f 22 = 0) => ?_)
      · skip
        refine lv_iconst (v := 0) hx hb dX7_trusts_31 (by decide) ?_
        have er : r_X7_trusts_16 f = 0 := by rw [r_X7_trusts_16]; (try rw [hr2]); rw [if_pos c1, if_neg c3, if_neg c4]
        exact k_zret kx hK hP2 hD3 hS1 (u := ()) rfl er.symm kb0 dX7_trusts_32
      · skip
        refine lv_iconst (v := 1) hx hb dX7_trusts_27 (by decide) ?_
        refine lv_goto (tgt := 32) hx hb dX7_trusts_28 (by decide) ?_
        have er : r_X7_trusts_16 f = 1 := by rw [r_X7_trusts_16]; (try rw [hr2]); rw [if_pos c1, if_neg c3, if_pos c4]
        exact k_zret kx hK hP2 hD3 hS1 (u := ()) rfl er.symm kb1 dX7_trusts_32
theorem kbr_X7_trusts_16 (f : Nat → Int32) : kb (r_X7_trusts_16 f) := by
  unfold r_X7_trusts_16
  repeat' split
  all_goals first | exact kb0 | exact kb1

set_option maxHeartbeats 4000000 in
set_option maxRecDepth 100000 in
theorem c_X7_useTold_0 (l : Launch) (G : kG) (f : Nat → Int32) (h0 : Nat) : cG l G yX7_useTold cX7_useTold 2 none 0 [.ref h0, .int 0] ([(h0, .inl (G.2.1, 55, .inl f))]) (qV G (fun _ : Unit => True) (fun _ => [(h0, .inl (G.2.1, 55, .inl (upd (upd f 3 (f 0)) 4 (f 1))))])) := by
  refine kintro (by decide) (Nat.le_of_ble_eq_true rfl) ?_
  intro p e s m args below meth c A ls kx hK hP hD hS hA hl
  have kx : kX p s m args meth c cX7_useTold 2 none RX7 := kx
  have hx := kx.1
  have hb := kx.2.1
  have hown := kx.2.2.2.2.1
  have ht := kx.2.2.2.2.2.2
  have hl : lv_has ls 2 [(0, .ref h0), (1, .int 0)] := hl
  refine lv_aload_n hx hb dX7_useTold_0 rfl (lv_at hl 0 rfl) ?_
  refine lv_iload_n hx hb dX7_useTold_1 rfl (lv_at hl 1 rfl) ?_
  refine lv_iconst (v := 3) hx hb dX7_useTold_2 (by decide) ?_
  refine lv_iadd hx hb dX7_useTold_3 ?_
  refine k_top (y := 3) (by decide +kernel) ?_
  refine lv_aload_n hx hb dX7_useTold_4 rfl (lv_at hl 0 rfl) ?_
  refine lv_iload_n hx hb dX7_useTold_5 rfl (lv_at hl 1 rfl) ?_
  refine lv_iconst (v := 0) hx hb dX7_useTold_6 (by decide) ?_
  refine lv_iadd hx hb dX7_useTold_7 ?_
  refine k_top (y := 0) (by decide +kernel) ?_
  refine k_iald (v := (f 0)) kx hK hP 0 rfl 0 rfl (by decide) (by decide) rfl dX7_useTold_8 ?_
  refine k_iast kx hK hP hD hS 0 rfl 3 rfl (by decide) (by decide) dX7_useTold_9 (fun H1 locs1 hP1 hD1 hS1 => ?_)
  have hP2 : va_P G.1 vwCl ([(h0, .inl (G.2.1, 55, .inl (upd f 3 (f 0))))]) H1 := hP1
  have hD3 : va_D A ([(h0, .inl (G.2.1, 55, .inl (upd f 3 (f 0))))]) := hD1
  refine lv_aload_n hx hb dX7_useTold_10 rfl (lv_at hl 0 rfl) ?_
  refine lv_iload_n hx hb dX7_useTold_11 rfl (lv_at hl 1 rfl) ?_
  refine lv_iconst (v := 4) hx hb dX7_useTold_12 (by decide) ?_
  refine lv_iadd hx hb dX7_useTold_13 ?_
  refine k_top (y := 4) (by decide +kernel) ?_
  refine lv_aload_n hx hb dX7_useTold_14 rfl (lv_at hl 0 rfl) ?_
  refine lv_iload_n hx hb dX7_useTold_15 rfl (lv_at hl 1 rfl) ?_
  refine lv_iconst (v := 1) hx hb dX7_useTold_16 (by decide) ?_
  refine lv_iadd hx hb dX7_useTold_17 ?_
  refine k_top (y := 1) (by decide +kernel) ?_
  refine k_iald (v := (f 1)) kx hK hP2 0 rfl 1 rfl (by decide) (by decide) rfl dX7_useTold_18 ?_
  refine k_iast kx hK hP2 hD3 hS1 0 rfl 4 rfl (by decide) (by decide) dX7_useTold_19 (fun H4 locs4 hP4 hD4 hS4 => ?_)
  have hP5 : va_P G.1 vwCl ([(h0, .inl (G.2.1, 55, .inl (upd (upd f 3 (f 0)) 4 (f 1))))]) H4 := hP4
  have hD6 : va_D A ([(h0, .inl (G.2.1, 55, .inl (upd (upd f 3 (f 0)) 4 (f 1))))]) := hD4
  exact k_vret kx hK hP5 hD6 hS4 (u := ()) rfl trivial dX7_useTold_20

set_option maxHeartbeats 4000000 in
set_option maxRecDepth 100000 in
theorem c_X7_useTold_16 (l : Launch) (G : kG) (f : Nat → Int32) (h0 : Nat) : cG l G yX7_useTold cX7_useTold 2 none 0 [.ref h0, .int 16] ([(h0, .inl (G.2.1, 55, .inl f))]) (qV G (fun _ : Unit => True) (fun _ => [(h0, .inl (G.2.1, 55, .inl (upd (upd f 19 (f 16)) 20 (f 17))))])) := by
  refine kintro (by decide) (Nat.le_of_ble_eq_true rfl) ?_
  intro p e s m args below meth c A ls kx hK hP hD hS hA hl
  have kx : kX p s m args meth c cX7_useTold 2 none RX7 := kx
  have hx := kx.1
  have hb := kx.2.1
  have hown := kx.2.2.2.2.1
  have ht := kx.2.2.2.2.2.2
  have hl : lv_has ls 2 [(0, .ref h0), (1, .int 16)] := hl
  refine lv_aload_n hx hb dX7_useTold_0 rfl (lv_at hl 0 rfl) ?_
  refine lv_iload_n hx hb dX7_useTold_1 rfl (lv_at hl 1 rfl) ?_
  refine lv_iconst (v := 3) hx hb dX7_useTold_2 (by decide) ?_
  refine lv_iadd hx hb dX7_useTold_3 ?_
  refine k_top (y := 19) (by decide +kernel) ?_
  refine lv_aload_n hx hb dX7_useTold_4 rfl (lv_at hl 0 rfl) ?_
  refine lv_iload_n hx hb dX7_useTold_5 rfl (lv_at hl 1 rfl) ?_
  refine lv_iconst (v := 0) hx hb dX7_useTold_6 (by decide) ?_
  refine lv_iadd hx hb dX7_useTold_7 ?_
  refine k_top (y := 16) (by decide +kernel) ?_
  refine k_iald (v := (f 16)) kx hK hP 0 rfl 16 rfl (by decide) (by decide) rfl dX7_useTold_8 ?_
  refine k_iast kx hK hP hD hS 0 rfl 19 rfl (by decide) (by decide) dX7_useTold_9 (fun H1 locs1 hP1 hD1 hS1 => ?_)
  have hP2 : va_P G.1 vwCl ([(h0, .inl (G.2.1, 55, .inl (upd f 19 (f 16))))]) H1 := hP1
  have hD3 : va_D A ([(h0, .inl (G.2.1, 55, .inl (upd f 19 (f 16))))]) := hD1
  refine lv_aload_n hx hb dX7_useTold_10 rfl (lv_at hl 0 rfl) ?_
  refine lv_iload_n hx hb dX7_useTold_11 rfl (lv_at hl 1 rfl) ?_
  refine lv_iconst (v := 4) hx hb dX7_useTold_12 (by decide) ?_
  refine lv_iadd hx hb dX7_useTold_13 ?_
  refine k_top (y := 20) (by decide +kernel) ?_
  refine lv_aload_n hx hb dX7_useTold_14 rfl (lv_at hl 0 rfl) ?_
  refine lv_iload_n hx hb dX7_useTold_15 rfl (lv_at hl 1 rfl) ?_
  refine lv_iconst (v := 1) hx hb dX7_useTold_16 (by decide) ?_
  refine lv_iadd hx hb dX7_useTold_17 ?_
  refine k_top (y := 17) (by decide +kernel) ?_
  refine k_iald (v := (f 17)) kx hK hP2 0 rfl 17 rfl (by decide) (by decide) rfl dX7_useTold_18 ?_
  refine k_iast kx hK hP2 hD3 hS1 0 rfl 20 rfl (by decide) (by decide) dX7_useTold_19 (fun H4 locs4 hP4 hD4 hS4 => ?_)
  have hP5 : va_P G.1 vwCl ([(h0, .inl (G.2.1, 55, .inl (upd (upd f 19 (f 16)) 20 (f 17))))]) H4 := hP4
  have hD6 : va_D A ([(h0, .inl (G.2.1, 55, .inl (upd (upd f 19 (f 16)) 20 (f 17))))]) := hD4
  exact k_vret kx hK hP5 hD6 hS4 (u := ()) rfl trivial dX7_useTold_20

set_option maxHeartbeats 4000000 in
set_option maxRecDepth 100000 in
theorem c_X7_fall_0 (l : Launch) (G : kG) (f : Nat → Int32) (h0 : Nat) : cG l G yX7_fall cX7_fall 2 none 1 [.ref h0, .int 0] ([(h0, .inl (G.2.1, 55, .inl f))]) (qV G (fun _ : Unit => True) (fun _ => [(h0, .inl (G.2.1, 55, .inl (upd (upd (upd (upd f 5 0) 6 0) 3 (f 0)) 4 (f 1))))])) := by
  refine kintro (by decide) (Nat.le_of_ble_eq_true rfl) ?_
  intro p e s m args below meth c A ls kx hK hP hD hS hA hl
  have kx : kX p s m args meth c cX7_fall 2 none RX7 := kx
  have hx := kx.1
  have hb := kx.2.1
  have hown := kx.2.2.2.2.1
  have ht := kx.2.2.2.2.2.2
  have hl : lv_has ls 2 [(0, .ref h0), (1, .int 0)] := hl
  refine lv_aload_n hx hb dX7_fall_0 rfl (lv_at hl 0 rfl) ?_
  refine lv_iload_n hx hb dX7_fall_1 rfl (lv_at hl 1 rfl) ?_
  refine lv_iconst (v := 5) hx hb dX7_fall_2 (by decide) ?_
  refine lv_iadd hx hb dX7_fall_3 ?_
  refine k_top (y := 5) (by decide +kernel) ?_
  refine lv_iconst (v := 0) hx hb dX7_fall_4 (by decide) ?_
  refine k_iast kx hK hP hD hS 0 rfl 5 rfl (by decide) (by decide) dX7_fall_5 (fun H1 locs1 hP1 hD1 hS1 => ?_)
  have hP2 : va_P G.1 vwCl ([(h0, .inl (G.2.1, 55, .inl (upd f 5 0)))]) H1 := hP1
  have hD3 : va_D A ([(h0, .inl (G.2.1, 55, .inl (upd f 5 0)))]) := hD1
  refine lv_aload_n hx hb dX7_fall_6 rfl (lv_at hl 0 rfl) ?_
  refine lv_iload_n hx hb dX7_fall_7 rfl (lv_at hl 1 rfl) ?_
  refine lv_bipush (v := 6) hx hb dX7_fall_8 (by decide) ?_
  refine lv_iadd hx hb dX7_fall_10 ?_
  refine k_top (y := 6) (by decide +kernel) ?_
  refine lv_iconst (v := 0) hx hb dX7_fall_11 (by decide) ?_
  refine k_iast kx hK hP2 hD3 hS1 0 rfl 6 rfl (by decide) (by decide) dX7_fall_12 (fun H4 locs4 hP4 hD4 hS4 => ?_)
  have hP5 : va_P G.1 vwCl ([(h0, .inl (G.2.1, 55, .inl (upd (upd f 5 0) 6 0)))]) H4 := hP4
  have hD6 : va_D A ([(h0, .inl (G.2.1, 55, .inl (upd (upd f 5 0) 6 0)))]) := hD4
  refine lv_aload_n hx hb dX7_fall_13 rfl (lv_at hl 0 rfl) ?_
  refine lv_iload_n hx hb dX7_fall_14 rfl (lv_at hl 1 rfl) ?_
  refine k_callv (kRunS (As := [.ref h0, .int 0]) (rest := []) kx (c_X7_useTold_0 l G (upd (upd f 5 0) 6 0) h0) q_759 q_757 q_36 q_758 nX7_useTold ⟨Nat.le_of_ble_eq_true rfl, Nat.le_of_ble_eq_true rfl⟩ hK hP5 hD6 (kCtx_all _) rfl hl.1 (Nat.le_of_ble_eq_true rfl) dX7_fall_15 ⟨Nat.zero_le _, Nat.zero_le _⟩) hP5 hD6 hS4 hA (kCtx_all _) (fun _ => rfl) (fun _ H7 locs7 hw hP7 hD7 hS7 => ?_)
  have hP8 : va_P G.1 vwCl ([(h0, .inl (G.2.1, 55, .inl (upd (upd (upd (upd f 5 0) 6 0) 3 (f 0)) 4 (f 1))))]) H7 := hP7
  have hD9 : va_D A ([(h0, .inl (G.2.1, 55, .inl (upd (upd (upd (upd f 5 0) 6 0) 3 (f 0)) 4 (f 1))))]) := hD7
  exact k_vret kx hK hP8 hD9 hS7 (u := ()) rfl trivial dX7_fall_18

set_option maxHeartbeats 4000000 in
set_option maxRecDepth 100000 in
theorem c_X7_fall_16 (l : Launch) (G : kG) (f : Nat → Int32) (h0 : Nat) : cG l G yX7_fall cX7_fall 2 none 1 [.ref h0, .int 16] ([(h0, .inl (G.2.1, 55, .inl f))]) (qV G (fun _ : Unit => True) (fun _ => [(h0, .inl (G.2.1, 55, .inl (upd (upd (upd (upd f 21 0) 22 0) 19 (f 16)) 20 (f 17))))])) := by
  refine kintro (by decide) (Nat.le_of_ble_eq_true rfl) ?_
  intro p e s m args below meth c A ls kx hK hP hD hS hA hl
  have kx : kX p s m args meth c cX7_fall 2 none RX7 := kx
  have hx := kx.1
  have hb := kx.2.1
  have hown := kx.2.2.2.2.1
  have ht := kx.2.2.2.2.2.2
  have hl : lv_has ls 2 [(0, .ref h0), (1, .int 16)] := hl
  refine lv_aload_n hx hb dX7_fall_0 rfl (lv_at hl 0 rfl) ?_
  refine lv_iload_n hx hb dX7_fall_1 rfl (lv_at hl 1 rfl) ?_
  refine lv_iconst (v := 5) hx hb dX7_fall_2 (by decide) ?_
  refine lv_iadd hx hb dX7_fall_3 ?_
  refine k_top (y := 21) (by decide +kernel) ?_
  refine lv_iconst (v := 0) hx hb dX7_fall_4 (by decide) ?_
  refine k_iast kx hK hP hD hS 0 rfl 21 rfl (by decide) (by decide) dX7_fall_5 (fun H1 locs1 hP1 hD1 hS1 => ?_)
  have hP2 : va_P G.1 vwCl ([(h0, .inl (G.2.1, 55, .inl (upd f 21 0)))]) H1 := hP1
  have hD3 : va_D A ([(h0, .inl (G.2.1, 55, .inl (upd f 21 0)))]) := hD1
  refine lv_aload_n hx hb dX7_fall_6 rfl (lv_at hl 0 rfl) ?_
  refine lv_iload_n hx hb dX7_fall_7 rfl (lv_at hl 1 rfl) ?_
  refine lv_bipush (v := 6) hx hb dX7_fall_8 (by decide) ?_
  refine lv_iadd hx hb dX7_fall_10 ?_
  refine k_top (y := 22) (by decide +kernel) ?_
  refine lv_iconst (v := 0) hx hb dX7_fall_11 (by decide) ?_
  refine k_iast kx hK hP2 hD3 hS1 0 rfl 22 rfl (by decide) (by decide) dX7_fall_12 (fun H4 locs4 hP4 hD4 hS4 => ?_)
  have hP5 : va_P G.1 vwCl ([(h0, .inl (G.2.1, 55, .inl (upd (upd f 21 0) 22 0)))]) H4 := hP4
  have hD6 : va_D A ([(h0, .inl (G.2.1, 55, .inl (upd (upd f 21 0) 22 0)))]) := hD4
  refine lv_aload_n hx hb dX7_fall_13 rfl (lv_at hl 0 rfl) ?_
  refine lv_iload_n hx hb dX7_fall_14 rfl (lv_at hl 1 rfl) ?_
  refine k_callv (kRunS (As := [.ref h0, .int 16]) (rest := []) kx (c_X7_useTold_16 l G (upd (upd f 21 0) 22 0) h0) q_759 q_757 q_36 q_758 nX7_useTold ⟨Nat.le_of_ble_eq_true rfl, Nat.le_of_ble_eq_true rfl⟩ hK hP5 hD6 (kCtx_all _) rfl hl.1 (Nat.le_of_ble_eq_true rfl) dX7_fall_15 ⟨Nat.zero_le _, Nat.zero_le _⟩) hP5 hD6 hS4 hA (kCtx_all _) (fun _ => rfl) (fun _ H7 locs7 hw hP7 hD7 hS7 => ?_)
  have hP8 : va_P G.1 vwCl ([(h0, .inl (G.2.1, 55, .inl (upd (upd (upd (upd f 21 0) 22 0) 19 (f 16)) 20 (f 17))))]) H7 := hP7
  have hD9 : va_D A ([(h0, .inl (G.2.1, 55, .inl (upd (upd (upd (upd f 21 0) 22 0) 19 (f 16)) 20 (f 17))))]) := hD7
  exact k_vret kx hK hP8 hD9 hS7 (u := ()) rfl trivial dX7_fall_18

def r_X7_mayPoll_0 (f : Nat → Int32) : Int32 := if f 5 = 2 then (if f 6 = 0 then 1 else 0) else 0
set_option maxHeartbeats 4000000 in
set_option maxRecDepth 100000 in
theorem c_X7_mayPoll_0 (l : Launch) (G : kG) (f : Nat → Int32) (h0 : Nat) : cG l G yX7_mayPoll cX7_mayPoll 2 (some .boolean) 0 [.ref h0, .int 0] ([(h0, .inl (G.2.1, 55, .inl f))]) (qI G (fun (r : Int32) (_ : Unit) => r = r_X7_mayPoll_0 f) (fun _ => [(h0, .inl (G.2.1, 55, .inl f))])) := by
  refine kintro (by decide) (Nat.le_of_ble_eq_true rfl) ?_
  intro p e s m args below meth c A ls kx hK hP hD hS hA hl
  have kx : kX p s m args meth c cX7_mayPoll 2 (some .boolean) RX7 := kx
  have hx := kx.1
  have hb := kx.2.1
  have hown := kx.2.2.2.2.1
  have ht := kx.2.2.2.2.2.2
  have hl : lv_has ls 2 [(0, .ref h0), (1, .int 0)] := hl
  refine lv_aload_n hx hb dX7_mayPoll_0 rfl (lv_at hl 0 rfl) ?_
  refine lv_iload_n hx hb dX7_mayPoll_1 rfl (lv_at hl 1 rfl) ?_
  refine lv_iconst (v := 5) hx hb dX7_mayPoll_2 (by decide) ?_
  refine lv_iadd hx hb dX7_mayPoll_3 ?_
  refine k_top (y := 5) (by decide +kernel) ?_
  refine k_iald (v := (f 5)) kx hK hP 0 rfl 5 rfl (by decide) (by decide) rfl dX7_mayPoll_4 ?_
  refine lv_iconst (v := 2) hx hb dX7_mayPoll_5 (by decide) ?_
  refine lv_icmp_ne (x := f 5) (y := 2) (tgt := 22) hx hb dX7_mayPoll_6 (by decide) (fun (c1 : ¬ (f 5 = 2)) => ?_) (fun (c1 : f 5 = 2) => ?_)
  · skip
    refine lv_iconst (v := 0) hx hb dX7_mayPoll_22 (by decide) ?_
    have er : r_X7_mayPoll_0 f = 0 := by rw [r_X7_mayPoll_0, if_neg c1]
    exact k_zret kx hK hP hD hS (u := ()) rfl er.symm kb0 dX7_mayPoll_23
  · skip
    refine lv_aload_n hx hb dX7_mayPoll_9 rfl (lv_at hl 0 rfl) ?_
    refine lv_iload_n hx hb dX7_mayPoll_10 rfl (lv_at hl 1 rfl) ?_
    refine lv_bipush (v := 6) hx hb dX7_mayPoll_11 (by decide) ?_
    refine lv_iadd hx hb dX7_mayPoll_13 ?_
    refine k_top (y := 6) (by decide +kernel) ?_
    refine k_iald (v := (f 6)) kx hK hP 0 rfl 6 rfl (by decide) (by decide) rfl dX7_mayPoll_14 ?_
    refine lv_if_ne (x := f 6) (tgt := 22) hx hb dX7_mayPoll_15 (by decide) (fun (c2 : ¬ (f 6 = 0)) => ?_) (fun (c2 : f 6 = 0) => ?_)
    · skip
      refine lv_iconst (v := 0) hx hb dX7_mayPoll_22 (by decide) ?_
      have er : r_X7_mayPoll_0 f = 0 := by rw [r_X7_mayPoll_0, if_pos c1, if_neg c2]
      exact k_zret kx hK hP hD hS (u := ()) rfl er.symm kb0 dX7_mayPoll_23
    · skip
      refine lv_iconst (v := 1) hx hb dX7_mayPoll_18 (by decide) ?_
      refine lv_goto (tgt := 23) hx hb dX7_mayPoll_19 (by decide) ?_
      have er : r_X7_mayPoll_0 f = 1 := by rw [r_X7_mayPoll_0, if_pos c1, if_pos c2]
      exact k_zret kx hK hP hD hS (u := ()) rfl er.symm kb1 dX7_mayPoll_23
theorem kbr_X7_mayPoll_0 (f : Nat → Int32) : kb (r_X7_mayPoll_0 f) := by
  unfold r_X7_mayPoll_0
  repeat' split
  all_goals first | exact kb0 | exact kb1

def r_X7_mayPoll_16 (f : Nat → Int32) : Int32 := if f 21 = 2 then (if f 22 = 0 then 1 else 0) else 0
set_option maxHeartbeats 4000000 in
set_option maxRecDepth 100000 in
theorem c_X7_mayPoll_16 (l : Launch) (G : kG) (f : Nat → Int32) (h0 : Nat) : cG l G yX7_mayPoll cX7_mayPoll 2 (some .boolean) 0 [.ref h0, .int 16] ([(h0, .inl (G.2.1, 55, .inl f))]) (qI G (fun (r : Int32) (_ : Unit) => r = r_X7_mayPoll_16 f) (fun _ => [(h0, .inl (G.2.1, 55, .inl f))])) := by
  refine kintro (by decide) (Nat.le_of_ble_eq_true rfl) ?_
  intro p e s m args below meth c A ls kx hK hP hD hS hA hl
  have kx : kX p s m args meth c cX7_mayPoll 2 (some .boolean) RX7 := kx
  have hx := kx.1
  have hb := kx.2.1
  have hown := kx.2.2.2.2.1
  have ht := kx.2.2.2.2.2.2
  have hl : lv_has ls 2 [(0, .ref h0), (1, .int 16)] := hl
  refine lv_aload_n hx hb dX7_mayPoll_0 rfl (lv_at hl 0 rfl) ?_
  refine lv_iload_n hx hb dX7_mayPoll_1 rfl (lv_at hl 1 rfl) ?_
  refine lv_iconst (v := 5) hx hb dX7_mayPoll_2 (by decide) ?_
  refine lv_iadd hx hb dX7_mayPoll_3 ?_
  refine k_top (y := 21) (by decide +kernel) ?_
  refine k_iald (v := (f 21)) kx hK hP 0 rfl 21 rfl (by decide) (by decide) rfl dX7_mayPoll_4 ?_
  refine lv_iconst (v := 2) hx hb dX7_mayPoll_5 (by decide) ?_
  refine lv_icmp_ne (x := f 21) (y := 2) (tgt := 22) hx hb dX7_mayPoll_6 (by decide) (fun (c1 : ¬ (f 21 = 2)) => ?_) (fun (c1 : f 21 = 2) => ?_)
  · skip
    refine lv_iconst (v := 0) hx hb dX7_mayPoll_22 (by decide) ?_
    have er : r_X7_mayPoll_16 f = 0 := by rw [r_X7_mayPoll_16, if_neg c1]
    exact k_zret kx hK hP hD hS (u := ()) rfl er.symm kb0 dX7_mayPoll_23
  · skip
    refine lv_aload_n hx hb dX7_mayPoll_9 rfl (lv_at hl 0 rfl) ?_
    refine lv_iload_n hx hb dX7_mayPoll_10 rfl (lv_at hl 1 rfl) ?_
    refine lv_bipush (v := 6) hx hb dX7_mayPoll_11 (by decide) ?_
    refine lv_iadd hx hb dX7_mayPoll_13 ?_
    refine k_top (y := 22) (by decide +kernel) ?_
    refine k_iald (v := (f 22)) kx hK hP 0 rfl 22 rfl (by decide) (by decide) rfl dX7_mayPoll_14 ?_
    refine lv_if_ne (x := f 22) (tgt := 22) hx hb dX7_mayPoll_15 (by decide) (fun (c2 : ¬ (f 22 = 0)) => ?_) (fun (c2 : f 22 = 0) => ?_)
    · skip
      refine lv_iconst (v := 0) hx hb dX7_mayPoll_22 (by decide) ?_
      have er : r_X7_mayPoll_16 f = 0 := by rw [r_X7_mayPoll_16, if_pos c1, if_neg c2]
      exact k_zret kx hK hP hD hS (u := ()) rfl er.symm kb0 dX7_mayPoll_23
    · skip
      refine lv_iconst (v := 1) hx hb dX7_mayPoll_18 (by decide) ?_
      refine lv_goto (tgt := 23) hx hb dX7_mayPoll_19 (by decide) ?_
      have er : r_X7_mayPoll_16 f = 1 := by rw [r_X7_mayPoll_16, if_pos c1, if_pos c2]
      exact k_zret kx hK hP hD hS (u := ()) rfl er.symm kb1 dX7_mayPoll_23
theorem kbr_X7_mayPoll_16 (f : Nat → Int32) : kb (r_X7_mayPoll_16 f) := by
  unfold r_X7_mayPoll_16
  repeat' split
  all_goals first | exact kb0 | exact kb1

set_option maxHeartbeats 4000000 in
set_option maxRecDepth 100000 in
theorem c_X7_pollOn_0 (l : Launch) (G : kG) (f : Nat → Int32) (h0 : Nat) : cG l G yX7_pollOn cX7_pollOn 2 none 0 [.ref h0, .int 0] ([(h0, .inl (G.2.1, 55, .inl f))]) (qV G (fun _ : Unit => True) (fun _ => [(h0, .inl (G.2.1, 55, .inl (upd (upd (upd f 6 1) 8 0) 9 0)))])) := by
  refine kintro (by decide) (Nat.le_of_ble_eq_true rfl) ?_
  intro p e s m args below meth c A ls kx hK hP hD hS hA hl
  have kx : kX p s m args meth c cX7_pollOn 2 none RX7 := kx
  have hx := kx.1
  have hb := kx.2.1
  have hown := kx.2.2.2.2.1
  have ht := kx.2.2.2.2.2.2
  have hl : lv_has ls 2 [(0, .ref h0), (1, .int 0)] := hl
  refine lv_aload_n hx hb dX7_pollOn_0 rfl (lv_at hl 0 rfl) ?_
  refine lv_iload_n hx hb dX7_pollOn_1 rfl (lv_at hl 1 rfl) ?_
  refine lv_bipush (v := 6) hx hb dX7_pollOn_2 (by decide) ?_
  refine lv_iadd hx hb dX7_pollOn_4 ?_
  refine k_top (y := 6) (by decide +kernel) ?_
  refine lv_iconst (v := 1) hx hb dX7_pollOn_5 (by decide) ?_
  refine k_iast kx hK hP hD hS 0 rfl 6 rfl (by decide) (by decide) dX7_pollOn_6 (fun H1 locs1 hP1 hD1 hS1 => ?_)
  have hP2 : va_P G.1 vwCl ([(h0, .inl (G.2.1, 55, .inl (upd f 6 1)))]) H1 := hP1
  have hD3 : va_D A ([(h0, .inl (G.2.1, 55, .inl (upd f 6 1)))]) := hD1
  refine lv_aload_n hx hb dX7_pollOn_7 rfl (lv_at hl 0 rfl) ?_
  refine lv_iload_n hx hb dX7_pollOn_8 rfl (lv_at hl 1 rfl) ?_
  refine lv_bipush (v := 8) hx hb dX7_pollOn_9 (by decide) ?_
  refine lv_iadd hx hb dX7_pollOn_11 ?_
  refine k_top (y := 8) (by decide +kernel) ?_
  refine lv_iconst (v := 0) hx hb dX7_pollOn_12 (by decide) ?_
  refine k_iast kx hK hP2 hD3 hS1 0 rfl 8 rfl (by decide) (by decide) dX7_pollOn_13 (fun H4 locs4 hP4 hD4 hS4 => ?_)
  have hP5 : va_P G.1 vwCl ([(h0, .inl (G.2.1, 55, .inl (upd (upd f 6 1) 8 0)))]) H4 := hP4
  have hD6 : va_D A ([(h0, .inl (G.2.1, 55, .inl (upd (upd f 6 1) 8 0)))]) := hD4
  refine lv_aload_n hx hb dX7_pollOn_14 rfl (lv_at hl 0 rfl) ?_
  refine lv_iload_n hx hb dX7_pollOn_15 rfl (lv_at hl 1 rfl) ?_
  refine lv_bipush (v := 9) hx hb dX7_pollOn_16 (by decide) ?_
  refine lv_iadd hx hb dX7_pollOn_18 ?_
  refine k_top (y := 9) (by decide +kernel) ?_
  refine lv_iconst (v := 0) hx hb dX7_pollOn_19 (by decide) ?_
  refine k_iast kx hK hP5 hD6 hS4 0 rfl 9 rfl (by decide) (by decide) dX7_pollOn_20 (fun H7 locs7 hP7 hD7 hS7 => ?_)
  have hP8 : va_P G.1 vwCl ([(h0, .inl (G.2.1, 55, .inl (upd (upd (upd f 6 1) 8 0) 9 0)))]) H7 := hP7
  have hD9 : va_D A ([(h0, .inl (G.2.1, 55, .inl (upd (upd (upd f 6 1) 8 0) 9 0)))]) := hD7
  exact k_vret kx hK hP8 hD9 hS7 (u := ()) rfl trivial dX7_pollOn_21

set_option maxHeartbeats 4000000 in
set_option maxRecDepth 100000 in
theorem c_X7_pollOn_16 (l : Launch) (G : kG) (f : Nat → Int32) (h0 : Nat) : cG l G yX7_pollOn cX7_pollOn 2 none 0 [.ref h0, .int 16] ([(h0, .inl (G.2.1, 55, .inl f))]) (qV G (fun _ : Unit => True) (fun _ => [(h0, .inl (G.2.1, 55, .inl (upd (upd (upd f 22 1) 24 0) 25 0)))])) := by
  refine kintro (by decide) (Nat.le_of_ble_eq_true rfl) ?_
  intro p e s m args below meth c A ls kx hK hP hD hS hA hl
  have kx : kX p s m args meth c cX7_pollOn 2 none RX7 := kx
  have hx := kx.1
  have hb := kx.2.1
  have hown := kx.2.2.2.2.1
  have ht := kx.2.2.2.2.2.2
  have hl : lv_has ls 2 [(0, .ref h0), (1, .int 16)] := hl
  refine lv_aload_n hx hb dX7_pollOn_0 rfl (lv_at hl 0 rfl) ?_
  refine lv_iload_n hx hb dX7_pollOn_1 rfl (lv_at hl 1 rfl) ?_
  refine lv_bipush (v := 6) hx hb dX7_pollOn_2 (by decide) ?_
  refine lv_iadd hx hb dX7_pollOn_4 ?_
  refine k_top (y := 22) (by decide +kernel) ?_
  refine lv_iconst (v := 1) hx hb dX7_pollOn_5 (by decide) ?_
  refine k_iast kx hK hP hD hS 0 rfl 22 rfl (by decide) (by decide) dX7_pollOn_6 (fun H1 locs1 hP1 hD1 hS1 => ?_)
  have hP2 : va_P G.1 vwCl ([(h0, .inl (G.2.1, 55, .inl (upd f 22 1)))]) H1 := hP1
  have hD3 : va_D A ([(h0, .inl (G.2.1, 55, .inl (upd f 22 1)))]) := hD1
  refine lv_aload_n hx hb dX7_pollOn_7 rfl (lv_at hl 0 rfl) ?_
  refine lv_iload_n hx hb dX7_pollOn_8 rfl (lv_at hl 1 rfl) ?_
  refine lv_bipush (v := 8) hx hb dX7_pollOn_9 (by decide) ?_
  refine lv_iadd hx hb dX7_pollOn_11 ?_
  refine k_top (y := 24) (by decide +kernel) ?_
  refine lv_iconst (v := 0) hx hb dX7_pollOn_12 (by decide) ?_
  refine k_iast kx hK hP2 hD3 hS1 0 rfl 24 rfl (by decide) (by decide) dX7_pollOn_13 (fun H4 locs4 hP4 hD4 hS4 => ?_)
  have hP5 : va_P G.1 vwCl ([(h0, .inl (G.2.1, 55, .inl (upd (upd f 22 1) 24 0)))]) H4 := hP4
  have hD6 : va_D A ([(h0, .inl (G.2.1, 55, .inl (upd (upd f 22 1) 24 0)))]) := hD4
  refine lv_aload_n hx hb dX7_pollOn_14 rfl (lv_at hl 0 rfl) ?_
  refine lv_iload_n hx hb dX7_pollOn_15 rfl (lv_at hl 1 rfl) ?_
  refine lv_bipush (v := 9) hx hb dX7_pollOn_16 (by decide) ?_
  refine lv_iadd hx hb dX7_pollOn_18 ?_
  refine k_top (y := 25) (by decide +kernel) ?_
  refine lv_iconst (v := 0) hx hb dX7_pollOn_19 (by decide) ?_
  refine k_iast kx hK hP5 hD6 hS4 0 rfl 25 rfl (by decide) (by decide) dX7_pollOn_20 (fun H7 locs7 hP7 hD7 hS7 => ?_)
  have hP8 : va_P G.1 vwCl ([(h0, .inl (G.2.1, 55, .inl (upd (upd (upd f 22 1) 24 0) 25 0)))]) H7 := hP7
  have hD9 : va_D A ([(h0, .inl (G.2.1, 55, .inl (upd (upd (upd f 22 1) 24 0) 25 0)))]) := hD7
  exact k_vret kx hK hP8 hD9 hS7 (u := ()) rfl trivial dX7_pollOn_21

def s_X7_setTx_0_f (f : Nat → Int32) (p0 : Int32) : Nat → Int32 := if f 5 = 2 then (upd (upd (upd f 0 p0) 3 (r_X7_min (f 3) p0)) 6 1) else upd (upd (upd f 0 p0) 3 p0) 6 (f 6)
set_option maxHeartbeats 4000000 in
set_option maxRecDepth 100000 in
theorem c_X7_setTx_0 (l : Launch) (G : kG) (f : Nat → Int32) (h0 : Nat) (p0 : Int32) : cG l G yX7_setTx cX7_setTx 4 none 1 [.ref h0, .int 0, .int p0] ([(h0, .inl (G.2.1, 55, .inl f))]) (qV G (fun u : (Nat → Int32) => u = s_X7_setTx_0_f f p0) (fun u => [(h0, .inl (G.2.1, 55, .inl u))])) := by
  refine kintro (by decide) (Nat.le_of_ble_eq_true rfl) ?_
  intro p e s m args below meth c A ls kx hK hP hD hS hA hl
  have kx : kX p s m args meth c cX7_setTx 4 none RX7 := kx
  have hx := kx.1
  have hb := kx.2.1
  have hown := kx.2.2.2.2.1
  have ht := kx.2.2.2.2.2.2
  have hl : lv_has ls 4 [(0, .ref h0), (1, .int 0), (2, .int p0)] := hl
  refine lv_aload_n hx hb dX7_setTx_0 rfl (lv_at hl 0 rfl) ?_
  refine lv_iload_n hx hb dX7_setTx_1 rfl (lv_at hl 1 rfl) ?_
  refine lv_iconst (v := 5) hx hb dX7_setTx_2 (by decide) ?_
  refine lv_iadd hx hb dX7_setTx_3 ?_
  refine k_top (y := 5) (by decide +kernel) ?_
  refine k_iald (v := (f 5)) kx hK hP 0 rfl 5 rfl (by decide) (by decide) rfl dX7_setTx_4 ?_
  refine lv_iconst (v := 2) hx hb dX7_setTx_5 (by decide) ?_
  refine lv_icmp_ne (x := f 5) (y := 2) (tgt := 13) hx hb dX7_setTx_6 (by decide) (fun (c1 : ¬ (f 5 = 2)) => ?_) (fun (c1 : f 5 = 2) => ?_)
  · skip
    refine lv_iconst (v := 0) hx hb dX7_setTx_13 (by decide) ?_
    refine lv_istore_n (lv' := [(3, .int 0), (0, .ref h0), (1, .int 0), (2, .int p0)]) hx hb dX7_setTx_14 rfl hl (by decide) rfl (fun ls1 hl1 => ?_)
    refine lv_aload_n hx hb dX7_setTx_15 rfl (lv_at hl1 1 rfl) ?_
    refine lv_iload_n hx hb dX7_setTx_16 rfl (lv_at hl1 2 rfl) ?_
    refine lv_iconst (v := 0) hx hb dX7_setTx_17 (by decide) ?_
    refine lv_iadd hx hb dX7_setTx_18 ?_
    refine k_top (y := 0) (by decide +kernel) ?_
    refine lv_iload_n hx hb dX7_setTx_19 rfl (lv_at hl1 3 rfl) ?_
    refine k_iast kx hK hP hD hS 0 rfl 0 rfl (by decide) (by decide) dX7_setTx_20 (fun H2 locs2 hP2 hD2 hS2 => ?_)
    have hP3 : va_P G.1 vwCl ([(h0, .inl (G.2.1, 55, .inl (upd f 0 p0)))]) H2 := hP2
    have hD4 : va_D A ([(h0, .inl (G.2.1, 55, .inl (upd f 0 p0)))]) := hD2
    refine lv_aload_n hx hb dX7_setTx_21 rfl (lv_at hl1 1 rfl) ?_
    refine lv_iload_n hx hb dX7_setTx_22 rfl (lv_at hl1 2 rfl) ?_
    refine lv_iconst (v := 3) hx hb dX7_setTx_23 (by decide) ?_
    refine lv_iadd hx hb dX7_setTx_24 ?_
    refine k_top (y := 3) (by decide +kernel) ?_
    refine lv_iload_n hx hb dX7_setTx_25 rfl (lv_at hl1 0 rfl) ?_
    refine lv_if_eq (x := 0) (tgt := 41) hx hb dX7_setTx_26 (by decide) (fun (c2 : 0 = 0) => ?_) (fun (c2 : ¬ (0 = 0)) => absurd (by decide) c2)
    refine lv_iload_n hx hb dX7_setTx_41 rfl (lv_at hl1 3 rfl) ?_
    refine k_iast kx hK hP3 hD4 hS2 0 rfl 3 rfl (by decide) (by decide) dX7_setTx_42 (fun H5 locs5 hP5 hD5 hS5 => ?_)
    have hP6 : va_P G.1 vwCl ([(h0, .inl (G.2.1, 55, .inl (upd (upd f 0 p0) 3 p0)))]) H5 := hP5
    have hD7 : va_D A ([(h0, .inl (G.2.1, 55, .inl (upd (upd f 0 p0) 3 p0)))]) := hD5
    refine lv_aload_n hx hb dX7_setTx_43 rfl (lv_at hl1 1 rfl) ?_
    refine lv_iload_n hx hb dX7_setTx_44 rfl (lv_at hl1 2 rfl) ?_
    refine lv_bipush (v := 6) hx hb dX7_setTx_45 (by decide) ?_
    refine lv_iadd hx hb dX7_setTx_47 ?_
    refine k_top (y := 6) (by decide +kernel) ?_
    refine lv_iload_n hx hb dX7_setTx_48 rfl (lv_at hl1 0 rfl) ?_
    refine lv_if_eq (x := 0) (tgt := 56) hx hb dX7_setTx_49 (by decide) (fun (c3 : 0 = 0) => ?_) (fun (c3 : ¬ (0 = 0)) => absurd (by decide) c3)
    refine lv_aload_n hx hb dX7_setTx_56 rfl (lv_at hl1 1 rfl) ?_
    refine lv_iload_n hx hb dX7_setTx_57 rfl (lv_at hl1 2 rfl) ?_
    refine lv_bipush (v := 6) hx hb dX7_setTx_58 (by decide) ?_
    refine lv_iadd hx hb dX7_setTx_60 ?_
    refine k_top (y := 6) (by decide +kernel) ?_
    refine k_iald (v := (f 6)) kx hK hP6 0 rfl 6 rfl (by decide) (by decide) rfl dX7_setTx_61 ?_
    refine k_iast kx hK hP6 hD7 hS5 0 rfl 6 rfl (by decide) (by decide) dX7_setTx_62 (fun H8 locs8 hP8 hD8 hS8 => ?_)
    have hP9 : va_P G.1 vwCl ([(h0, .inl (G.2.1, 55, .inl (upd (upd (upd f 0 p0) 3 p0) 6 (f 6))))]) H8 := hP8
    have hD10 : va_D A ([(h0, .inl (G.2.1, 55, .inl (upd (upd (upd f 0 p0) 3 p0) 6 (f 6))))]) := hD8
    have e0 : s_X7_setTx_0_f f p0 = upd (upd (upd f 0 p0) 3 p0) 6 (f 6) := by rw [s_X7_setTx_0_f, if_neg c1]
    exact k_vret kx hK hP9 hD10 hS8 (u := upd (upd (upd f 0 p0) 3 p0) 6 (f 6)) rfl e0.symm dX7_setTx_63
  · skip
    refine lv_iconst (v := 1) hx hb dX7_setTx_9 (by decide) ?_
    refine lv_goto (tgt := 14) hx hb dX7_setTx_10 (by decide) ?_
    refine lv_istore_n (lv' := [(3, .int 1), (0, .ref h0), (1, .int 0), (2, .int p0)]) hx hb dX7_setTx_14 rfl hl (by decide) rfl (fun ls11 hl11 => ?_)
    refine lv_aload_n hx hb dX7_setTx_15 rfl (lv_at hl11 1 rfl) ?_
    refine lv_iload_n hx hb dX7_setTx_16 rfl (lv_at hl11 2 rfl) ?_
    refine lv_iconst (v := 0) hx hb dX7_setTx_17 (by decide) ?_
    refine lv_iadd hx hb dX7_setTx_18 ?_
    refine k_top (y := 0) (by decide +kernel) ?_
    refine lv_iload_n hx hb dX7_setTx_19 rfl (lv_at hl11 3 rfl) ?_
    refine k_iast kx hK hP hD hS 0 rfl 0 rfl (by decide) (by decide) dX7_setTx_20 (fun H12 locs12 hP12 hD12 hS12 => ?_)
    have hP13 : va_P G.1 vwCl ([(h0, .inl (G.2.1, 55, .inl (upd f 0 p0)))]) H12 := hP12
    have hD14 : va_D A ([(h0, .inl (G.2.1, 55, .inl (upd f 0 p0)))]) := hD12
    refine lv_aload_n hx hb dX7_setTx_21 rfl (lv_at hl11 1 rfl) ?_
    refine lv_iload_n hx hb dX7_setTx_22 rfl (lv_at hl11 2 rfl) ?_
    refine lv_iconst (v := 3) hx hb dX7_setTx_23 (by decide) ?_
    refine lv_iadd hx hb dX7_setTx_24 ?_
    refine k_top (y := 3) (by decide +kernel) ?_
    refine lv_iload_n hx hb dX7_setTx_25 rfl (lv_at hl11 0 rfl) ?_
    refine lv_if_eq (x := 1) (tgt := 41) hx hb dX7_setTx_26 (by decide) (fun (c4 : 1 = 0) => absurd c4 (by decide)) (fun (c4 : ¬ (1 = 0)) => ?_)
    refine lv_aload_n hx hb dX7_setTx_29 rfl (lv_at hl11 1 rfl) ?_
    refine lv_iload_n hx hb dX7_setTx_30 rfl (lv_at hl11 2 rfl) ?_
    refine lv_iconst (v := 3) hx hb dX7_setTx_31 (by decide) ?_
    refine lv_iadd hx hb dX7_setTx_32 ?_
    refine k_top (y := 3) (by decide +kernel) ?_
    refine k_iald (v := (f 3)) kx hK hP13 0 rfl 3 rfl (by decide) (by decide) rfl dX7_setTx_33 ?_
    refine lv_iload_n hx hb dX7_setTx_34 rfl (lv_at hl11 3 rfl) ?_
    refine k_calli (kRunS (As := [.int (f 3), .int p0]) (rest := [.int 3, .ref h0]) kx (c_X7_min l G (f 3) p0) q_867 q_865 q_36 q_866 nX7_min ⟨Nat.le_of_ble_eq_true rfl, Nat.le_of_ble_eq_true rfl⟩ hK hP13 hD14 (kCtx_nil _) rfl hl11.1 (Nat.le_of_ble_eq_true rfl) dX7_setTx_35 ⟨Nat.zero_le _, Nat.zero_le _⟩) hP13 hD14 hS12 hA (kCtx_nil _) (fun _ => rfl) (fun r5 _ H15 locs15 hw hP15 hD15 hS15 => ?_)
    have hr5 : r_X7_min (f 3) p0 = r5 := (show r5 = r_X7_min (f 3) p0 from hw).symm
    have hP16 : va_P G.1 vwCl ([(h0, .inl (G.2.1, 55, .inl (upd f 0 p0)))]) H15 := hP15
    have hD17 : va_D A ([(h0, .inl (G.2.1, 55, .inl (upd f 0 p0)))]) := hD15
    refine lv_goto (tgt := 42) hx hb dX7_setTx_38 (by decide) ?_
    refine k_iast kx hK hP16 hD17 hS15 0 rfl 3 rfl (by decide) (by decide) dX7_setTx_42 (fun H18 locs18 hP18 hD18 hS18 => ?_)
    have hP19 : va_P G.1 vwCl ([(h0, .inl (G.2.1, 55, .inl (upd (upd f 0 p0) 3 r5)))]) H18 := hP18
    have hD20 : va_D A ([(h0, .inl (G.2.1, 55, .inl (upd (upd f 0 p0) 3 r5)))]) := hD18
    refine lv_aload_n hx hb dX7_setTx_43 rfl (lv_at hl11 1 rfl) ?_
    refine lv_iload_n hx hb dX7_setTx_44 rfl (lv_at hl11 2 rfl) ?_
    refine lv_bipush (v := 6) hx hb dX7_setTx_45 (by decide) ?_
    refine lv_iadd hx hb dX7_setTx_47 ?_
    refine k_top (y := 6) (by decide +kernel) ?_
    refine lv_iload_n hx hb dX7_setTx_48 rfl (lv_at hl11 0 rfl) ?_
    refine lv_if_eq (x := 1) (tgt := 56) hx hb dX7_setTx_49 (by decide) (fun (c6 : 1 = 0) => absurd c6 (by decide)) (fun (c6 : ¬ (1 = 0)) => ?_)
    refine lv_iconst (v := 1) hx hb dX7_setTx_52 (by decide) ?_
    refine lv_goto (tgt := 62) hx hb dX7_setTx_53 (by decide) ?_
    refine k_iast kx hK hP19 hD20 hS18 0 rfl 6 rfl (by decide) (by decide) dX7_setTx_62 (fun H21 locs21 hP21 hD21 hS21 => ?_)
    have hP22 : va_P G.1 vwCl ([(h0, .inl (G.2.1, 55, .inl (upd (upd (upd f 0 p0) 3 r5) 6 1)))]) H21 := hP21
    have hD23 : va_D A ([(h0, .inl (G.2.1, 55, .inl (upd (upd (upd f 0 p0) 3 r5) 6 1)))]) := hD21
    have e0 : s_X7_setTx_0_f f p0 = upd (upd (upd f 0 p0) 3 r5) 6 1 := by rw [s_X7_setTx_0_f]; (try rw [hr5]); rw [if_pos c1]
    exact k_vret kx hK hP22 hD23 hS21 (u := upd (upd (upd f 0 p0) 3 r5) 6 1) rfl e0.symm dX7_setTx_63

def s_X7_setTx_16_f (f : Nat → Int32) (p0 : Int32) : Nat → Int32 := if f 21 = 2 then (upd (upd (upd f 16 p0) 19 (r_X7_min (f 19) p0)) 22 1) else upd (upd (upd f 16 p0) 19 p0) 22 (f 22)
set_option maxHeartbeats 4000000 in
set_option maxRecDepth 100000 in
theorem c_X7_setTx_16 (l : Launch) (G : kG) (f : Nat → Int32) (h0 : Nat) (p0 : Int32) : cG l G yX7_setTx cX7_setTx 4 none 1 [.ref h0, .int 16, .int p0] ([(h0, .inl (G.2.1, 55, .inl f))]) (qV G (fun u : (Nat → Int32) => u = s_X7_setTx_16_f f p0) (fun u => [(h0, .inl (G.2.1, 55, .inl u))])) := by
  refine kintro (by decide) (Nat.le_of_ble_eq_true rfl) ?_
  intro p e s m args below meth c A ls kx hK hP hD hS hA hl
  have kx : kX p s m args meth c cX7_setTx 4 none RX7 := kx
  have hx := kx.1
  have hb := kx.2.1
  have hown := kx.2.2.2.2.1
  have ht := kx.2.2.2.2.2.2
  have hl : lv_has ls 4 [(0, .ref h0), (1, .int 16), (2, .int p0)] := hl
  refine lv_aload_n hx hb dX7_setTx_0 rfl (lv_at hl 0 rfl) ?_
  refine lv_iload_n hx hb dX7_setTx_1 rfl (lv_at hl 1 rfl) ?_
  refine lv_iconst (v := 5) hx hb dX7_setTx_2 (by decide) ?_
  refine lv_iadd hx hb dX7_setTx_3 ?_
  refine k_top (y := 21) (by decide +kernel) ?_
  refine k_iald (v := (f 21)) kx hK hP 0 rfl 21 rfl (by decide) (by decide) rfl dX7_setTx_4 ?_
  refine lv_iconst (v := 2) hx hb dX7_setTx_5 (by decide) ?_
  refine lv_icmp_ne (x := f 21) (y := 2) (tgt := 13) hx hb dX7_setTx_6 (by decide) (fun (c1 : ¬ (f 21 = 2)) => ?_) (fun (c1 : f 21 = 2) => ?_)
  · skip
    refine lv_iconst (v := 0) hx hb dX7_setTx_13 (by decide) ?_
    refine lv_istore_n (lv' := [(3, .int 0), (0, .ref h0), (1, .int 16), (2, .int p0)]) hx hb dX7_setTx_14 rfl hl (by decide) rfl (fun ls1 hl1 => ?_)
    refine lv_aload_n hx hb dX7_setTx_15 rfl (lv_at hl1 1 rfl) ?_
    refine lv_iload_n hx hb dX7_setTx_16 rfl (lv_at hl1 2 rfl) ?_
    refine lv_iconst (v := 0) hx hb dX7_setTx_17 (by decide) ?_
    refine lv_iadd hx hb dX7_setTx_18 ?_
    refine k_top (y := 16) (by decide +kernel) ?_
    refine lv_iload_n hx hb dX7_setTx_19 rfl (lv_at hl1 3 rfl) ?_
    refine k_iast kx hK hP hD hS 0 rfl 16 rfl (by decide) (by decide) dX7_setTx_20 (fun H2 locs2 hP2 hD2 hS2 => ?_)
    have hP3 : va_P G.1 vwCl ([(h0, .inl (G.2.1, 55, .inl (upd f 16 p0)))]) H2 := hP2
    have hD4 : va_D A ([(h0, .inl (G.2.1, 55, .inl (upd f 16 p0)))]) := hD2
    refine lv_aload_n hx hb dX7_setTx_21 rfl (lv_at hl1 1 rfl) ?_
    refine lv_iload_n hx hb dX7_setTx_22 rfl (lv_at hl1 2 rfl) ?_
    refine lv_iconst (v := 3) hx hb dX7_setTx_23 (by decide) ?_
    refine lv_iadd hx hb dX7_setTx_24 ?_
    refine k_top (y := 19) (by decide +kernel) ?_
    refine lv_iload_n hx hb dX7_setTx_25 rfl (lv_at hl1 0 rfl) ?_
    refine lv_if_eq (x := 0) (tgt := 41) hx hb dX7_setTx_26 (by decide) (fun (c2 : 0 = 0) => ?_) (fun (c2 : ¬ (0 = 0)) => absurd (by decide) c2)
    refine lv_iload_n hx hb dX7_setTx_41 rfl (lv_at hl1 3 rfl) ?_
    refine k_iast kx hK hP3 hD4 hS2 0 rfl 19 rfl (by decide) (by decide) dX7_setTx_42 (fun H5 locs5 hP5 hD5 hS5 => ?_)
    have hP6 : va_P G.1 vwCl ([(h0, .inl (G.2.1, 55, .inl (upd (upd f 16 p0) 19 p0)))]) H5 := hP5
    have hD7 : va_D A ([(h0, .inl (G.2.1, 55, .inl (upd (upd f 16 p0) 19 p0)))]) := hD5
    refine lv_aload_n hx hb dX7_setTx_43 rfl (lv_at hl1 1 rfl) ?_
    refine lv_iload_n hx hb dX7_setTx_44 rfl (lv_at hl1 2 rfl) ?_
    refine lv_bipush (v := 6) hx hb dX7_setTx_45 (by decide) ?_
    refine lv_iadd hx hb dX7_setTx_47 ?_
    refine k_top (y := 22) (by decide +kernel) ?_
    refine lv_iload_n hx hb dX7_setTx_48 rfl (lv_at hl1 0 rfl) ?_
    refine lv_if_eq (x := 0) (tgt := 56) hx hb dX7_setTx_49 (by decide) (fun (c3 : 0 = 0) => ?_) (fun (c3 : ¬ (0 = 0)) => absurd (by decide) c3)
    refine lv_aload_n hx hb dX7_setTx_56 rfl (lv_at hl1 1 rfl) ?_
    refine lv_iload_n hx hb dX7_setTx_57 rfl (lv_at hl1 2 rfl) ?_
    refine lv_bipush (v := 6) hx hb dX7_setTx_58 (by decide) ?_
    refine lv_iadd hx hb dX7_setTx_60 ?_
    refine k_top (y := 22) (by decide +kernel) ?_
    refine k_iald (v := (f 22)) kx hK hP6 0 rfl 22 rfl (by decide) (by decide) rfl dX7_setTx_61 ?_
    refine k_iast kx hK hP6 hD7 hS5 0 rfl 22 rfl (by decide) (by decide) dX7_setTx_62 (fun H8 locs8 hP8 hD8 hS8 => ?_)
    have hP9 : va_P G.1 vwCl ([(h0, .inl (G.2.1, 55, .inl (upd (upd (upd f 16 p0) 19 p0) 22 (f 22))))]) H8 := hP8
    have hD10 : va_D A ([(h0, .inl (G.2.1, 55, .inl (upd (upd (upd f 16 p0) 19 p0) 22 (f 22))))]) := hD8
    have e0 : s_X7_setTx_16_f f p0 = upd (upd (upd f 16 p0) 19 p0) 22 (f 22) := by rw [s_X7_setTx_16_f, if_neg c1]
    exact k_vret kx hK hP9 hD10 hS8 (u := upd (upd (upd f 16 p0) 19 p0) 22 (f 22)) rfl e0.symm dX7_setTx_63
  · skip
    refine lv_iconst (v := 1) hx hb dX7_setTx_9 (by decide) ?_
    refine lv_goto (tgt := 14) hx hb dX7_setTx_10 (by decide) ?_
    refine lv_istore_n (lv' := [(3, .int 1), (0, .ref h0), (1, .int 16), (2, .int p0)]) hx hb dX7_setTx_14 rfl hl (by decide) rfl (fun ls11 hl11 => ?_)
    refine lv_aload_n hx hb dX7_setTx_15 rfl (lv_at hl11 1 rfl) ?_
    refine lv_iload_n hx hb dX7_setTx_16 rfl (lv_at hl11 2 rfl) ?_
    refine lv_iconst (v := 0) hx hb dX7_setTx_17 (by decide) ?_
    refine lv_iadd hx hb dX7_setTx_18 ?_
    refine k_top (y := 16) (by decide +kernel) ?_
    refine lv_iload_n hx hb dX7_setTx_19 rfl (lv_at hl11 3 rfl) ?_
    refine k_iast kx hK hP hD hS 0 rfl 16 rfl (by decide) (by decide) dX7_setTx_20 (fun H12 locs12 hP12 hD12 hS12 => ?_)
    have hP13 : va_P G.1 vwCl ([(h0, .inl (G.2.1, 55, .inl (upd f 16 p0)))]) H12 := hP12
    have hD14 : va_D A ([(h0, .inl (G.2.1, 55, .inl (upd f 16 p0)))]) := hD12
    refine lv_aload_n hx hb dX7_setTx_21 rfl (lv_at hl11 1 rfl) ?_
    refine lv_iload_n hx hb dX7_setTx_22 rfl (lv_at hl11 2 rfl) ?_
    refine lv_iconst (v := 3) hx hb dX7_setTx_23 (by decide) ?_
    refine lv_iadd hx hb dX7_setTx_24 ?_
    refine k_top (y := 19) (by decide +kernel) ?_
    refine lv_iload_n hx hb dX7_setTx_25 rfl (lv_at hl11 0 rfl) ?_
    refine lv_if_eq (x := 1) (tgt := 41) hx hb dX7_setTx_26 (by decide) (fun (c4 : 1 = 0) => absurd c4 (by decide)) (fun (c4 : ¬ (1 = 0)) => ?_)
    refine lv_aload_n hx hb dX7_setTx_29 rfl (lv_at hl11 1 rfl) ?_
    refine lv_iload_n hx hb dX7_setTx_30 rfl (lv_at hl11 2 rfl) ?_
    refine lv_iconst (v := 3) hx hb dX7_setTx_31 (by decide) ?_
    refine lv_iadd hx hb dX7_setTx_32 ?_
    refine k_top (y := 19) (by decide +kernel) ?_
    refine k_iald (v := (f 19)) kx hK hP13 0 rfl 19 rfl (by decide) (by decide) rfl dX7_setTx_33 ?_
    refine lv_iload_n hx hb dX7_setTx_34 rfl (lv_at hl11 3 rfl) ?_
    refine k_calli (kRunS (As := [.int (f 19), .int p0]) (rest := [.int 19, .ref h0]) kx (c_X7_min l G (f 19) p0) q_867 q_865 q_36 q_866 nX7_min ⟨Nat.le_of_ble_eq_true rfl, Nat.le_of_ble_eq_true rfl⟩ hK hP13 hD14 (kCtx_nil _) rfl hl11.1 (Nat.le_of_ble_eq_true rfl) dX7_setTx_35 ⟨Nat.zero_le _, Nat.zero_le _⟩) hP13 hD14 hS12 hA (kCtx_nil _) (fun _ => rfl) (fun r5 _ H15 locs15 hw hP15 hD15 hS15 => ?_)
    have hr5 : r_X7_min (f 19) p0 = r5 := (show r5 = r_X7_min (f 19) p0 from hw).symm
    have hP16 : va_P G.1 vwCl ([(h0, .inl (G.2.1, 55, .inl (upd f 16 p0)))]) H15 := hP15
    have hD17 : va_D A ([(h0, .inl (G.2.1, 55, .inl (upd f 16 p0)))]) := hD15
    refine lv_goto (tgt := 42) hx hb dX7_setTx_38 (by decide) ?_
    refine k_iast kx hK hP16 hD17 hS15 0 rfl 19 rfl (by decide) (by decide) dX7_setTx_42 (fun H18 locs18 hP18 hD18 hS18 => ?_)
    have hP19 : va_P G.1 vwCl ([(h0, .inl (G.2.1, 55, .inl (upd (upd f 16 p0) 19 r5)))]) H18 := hP18
    have hD20 : va_D A ([(h0, .inl (G.2.1, 55, .inl (upd (upd f 16 p0) 19 r5)))]) := hD18
    refine lv_aload_n hx hb dX7_setTx_43 rfl (lv_at hl11 1 rfl) ?_
    refine lv_iload_n hx hb dX7_setTx_44 rfl (lv_at hl11 2 rfl) ?_
    refine lv_bipush (v := 6) hx hb dX7_setTx_45 (by decide) ?_
    refine lv_iadd hx hb dX7_setTx_47 ?_
    refine k_top (y := 22) (by decide +kernel) ?_
    refine lv_iload_n hx hb dX7_setTx_48 rfl (lv_at hl11 0 rfl) ?_
    refine lv_if_eq (x := 1) (tgt := 56) hx hb dX7_setTx_49 (by decide) (fun (c6 : 1 = 0) => absurd c6 (by decide)) (fun (c6 : ¬ (1 = 0)) => ?_)
    refine lv_iconst (v := 1) hx hb dX7_setTx_52 (by decide) ?_
    refine lv_goto (tgt := 62) hx hb dX7_setTx_53 (by decide) ?_
    refine k_iast kx hK hP19 hD20 hS18 0 rfl 22 rfl (by decide) (by decide) dX7_setTx_62 (fun H21 locs21 hP21 hD21 hS21 => ?_)
    have hP22 : va_P G.1 vwCl ([(h0, .inl (G.2.1, 55, .inl (upd (upd (upd f 16 p0) 19 r5) 22 1)))]) H21 := hP21
    have hD23 : va_D A ([(h0, .inl (G.2.1, 55, .inl (upd (upd (upd f 16 p0) 19 r5) 22 1)))]) := hD21
    have e0 : s_X7_setTx_16_f f p0 = upd (upd (upd f 16 p0) 19 r5) 22 1 := by rw [s_X7_setTx_16_f]; (try rw [hr5]); rw [if_pos c1]
    exact k_vret kx hK hP22 hD23 hS21 (u := upd (upd (upd f 16 p0) 19 r5) 22 1) rfl e0.symm dX7_setTx_63

def s_X7_setRx_0_f (f : Nat → Int32) (p0 : Int32) : Nat → Int32 := if f 5 = 2 then (upd (upd (upd f 1 p0) 4 (r_X7_max (f 4) p0)) 6 1) else upd (upd (upd f 1 p0) 4 p0) 6 (f 6)
set_option maxHeartbeats 4000000 in
set_option maxRecDepth 100000 in
theorem c_X7_setRx_0 (l : Launch) (G : kG) (f : Nat → Int32) (h0 : Nat) (p0 : Int32) : cG l G yX7_setRx cX7_setRx 4 none 1 [.ref h0, .int 0, .int p0] ([(h0, .inl (G.2.1, 55, .inl f))]) (qV G (fun u : (Nat → Int32) => u = s_X7_setRx_0_f f p0) (fun u => [(h0, .inl (G.2.1, 55, .inl u))])) := by
  refine kintro (by decide) (Nat.le_of_ble_eq_true rfl) ?_
  intro p e s m args below meth c A ls kx hK hP hD hS hA hl
  have kx : kX p s m args meth c cX7_setRx 4 none RX7 := kx
  have hx := kx.1
  have hb := kx.2.1
  have hown := kx.2.2.2.2.1
  have ht := kx.2.2.2.2.2.2
  have hl : lv_has ls 4 [(0, .ref h0), (1, .int 0), (2, .int p0)] := hl
  refine lv_aload_n hx hb dX7_setRx_0 rfl (lv_at hl 0 rfl) ?_
  refine lv_iload_n hx hb dX7_setRx_1 rfl (lv_at hl 1 rfl) ?_
  refine lv_iconst (v := 5) hx hb dX7_setRx_2 (by decide) ?_
  refine lv_iadd hx hb dX7_setRx_3 ?_
  refine k_top (y := 5) (by decide +kernel) ?_
  refine k_iald (v := (f 5)) kx hK hP 0 rfl 5 rfl (by decide) (by decide) rfl dX7_setRx_4 ?_
  refine lv_iconst (v := 2) hx hb dX7_setRx_5 (by decide) ?_
  refine lv_icmp_ne (x := f 5) (y := 2) (tgt := 13) hx hb dX7_setRx_6 (by decide) (fun (c1 : ¬ (f 5 = 2)) => ?_) (fun (c1 : f 5 = 2) => ?_)
  · skip
    refine lv_iconst (v := 0) hx hb dX7_setRx_13 (by decide) ?_
    refine lv_istore_n (lv' := [(3, .int 0), (0, .ref h0), (1, .int 0), (2, .int p0)]) hx hb dX7_setRx_14 rfl hl (by decide) rfl (fun ls1 hl1 => ?_)
    refine lv_aload_n hx hb dX7_setRx_15 rfl (lv_at hl1 1 rfl) ?_
    refine lv_iload_n hx hb dX7_setRx_16 rfl (lv_at hl1 2 rfl) ?_
    refine lv_iconst (v := 1) hx hb dX7_setRx_17 (by decide) ?_
    refine lv_iadd hx hb dX7_setRx_18 ?_
    refine k_top (y := 1) (by decide +kernel) ?_
    refine lv_iload_n hx hb dX7_setRx_19 rfl (lv_at hl1 3 rfl) ?_
    refine k_iast kx hK hP hD hS 0 rfl 1 rfl (by decide) (by decide) dX7_setRx_20 (fun H2 locs2 hP2 hD2 hS2 => ?_)
    have hP3 : va_P G.1 vwCl ([(h0, .inl (G.2.1, 55, .inl (upd f 1 p0)))]) H2 := hP2
    have hD4 : va_D A ([(h0, .inl (G.2.1, 55, .inl (upd f 1 p0)))]) := hD2
    refine lv_aload_n hx hb dX7_setRx_21 rfl (lv_at hl1 1 rfl) ?_
    refine lv_iload_n hx hb dX7_setRx_22 rfl (lv_at hl1 2 rfl) ?_
    refine lv_iconst (v := 4) hx hb dX7_setRx_23 (by decide) ?_
    refine lv_iadd hx hb dX7_setRx_24 ?_
    refine k_top (y := 4) (by decide +kernel) ?_
    refine lv_iload_n hx hb dX7_setRx_25 rfl (lv_at hl1 0 rfl) ?_
    refine lv_if_eq (x := 0) (tgt := 41) hx hb dX7_setRx_26 (by decide) (fun (c2 : 0 = 0) => ?_) (fun (c2 : ¬ (0 = 0)) => absurd (by decide) c2)
    refine lv_iload_n hx hb dX7_setRx_41 rfl (lv_at hl1 3 rfl) ?_
    refine k_iast kx hK hP3 hD4 hS2 0 rfl 4 rfl (by decide) (by decide) dX7_setRx_42 (fun H5 locs5 hP5 hD5 hS5 => ?_)
    have hP6 : va_P G.1 vwCl ([(h0, .inl (G.2.1, 55, .inl (upd (upd f 1 p0) 4 p0)))]) H5 := hP5
    have hD7 : va_D A ([(h0, .inl (G.2.1, 55, .inl (upd (upd f 1 p0) 4 p0)))]) := hD5
    refine lv_aload_n hx hb dX7_setRx_43 rfl (lv_at hl1 1 rfl) ?_
    refine lv_iload_n hx hb dX7_setRx_44 rfl (lv_at hl1 2 rfl) ?_
    refine lv_bipush (v := 6) hx hb dX7_setRx_45 (by decide) ?_
    refine lv_iadd hx hb dX7_setRx_47 ?_
    refine k_top (y := 6) (by decide +kernel) ?_
    refine lv_iload_n hx hb dX7_setRx_48 rfl (lv_at hl1 0 rfl) ?_
    refine lv_if_eq (x := 0) (tgt := 56) hx hb dX7_setRx_49 (by decide) (fun (c3 : 0 = 0) => ?_) (fun (c3 : ¬ (0 = 0)) => absurd (by decide) c3)
    refine lv_aload_n hx hb dX7_setRx_56 rfl (lv_at hl1 1 rfl) ?_
    refine lv_iload_n hx hb dX7_setRx_57 rfl (lv_at hl1 2 rfl) ?_
    refine lv_bipush (v := 6) hx hb dX7_setRx_58 (by decide) ?_
    refine lv_iadd hx hb dX7_setRx_60 ?_
    refine k_top (y := 6) (by decide +kernel) ?_
    refine k_iald (v := (f 6)) kx hK hP6 0 rfl 6 rfl (by decide) (by decide) rfl dX7_setRx_61 ?_
    refine k_iast kx hK hP6 hD7 hS5 0 rfl 6 rfl (by decide) (by decide) dX7_setRx_62 (fun H8 locs8 hP8 hD8 hS8 => ?_)
    have hP9 : va_P G.1 vwCl ([(h0, .inl (G.2.1, 55, .inl (upd (upd (upd f 1 p0) 4 p0) 6 (f 6))))]) H8 := hP8
    have hD10 : va_D A ([(h0, .inl (G.2.1, 55, .inl (upd (upd (upd f 1 p0) 4 p0) 6 (f 6))))]) := hD8
    have e0 : s_X7_setRx_0_f f p0 = upd (upd (upd f 1 p0) 4 p0) 6 (f 6) := by rw [s_X7_setRx_0_f, if_neg c1]
    exact k_vret kx hK hP9 hD10 hS8 (u := upd (upd (upd f 1 p0) 4 p0) 6 (f 6)) rfl e0.symm dX7_setRx_63
  · skip
    refine lv_iconst (v := 1) hx hb dX7_setRx_9 (by decide) ?_
    refine lv_goto (tgt := 14) hx hb dX7_setRx_10 (by decide) ?_
    refine lv_istore_n (lv' := [(3, .int 1), (0, .ref h0), (1, .int 0), (2, .int p0)]) hx hb dX7_setRx_14 rfl hl (by decide) rfl (fun ls11 hl11 => ?_)
    refine lv_aload_n hx hb dX7_setRx_15 rfl (lv_at hl11 1 rfl) ?_
    refine lv_iload_n hx hb dX7_setRx_16 rfl (lv_at hl11 2 rfl) ?_
    refine lv_iconst (v := 1) hx hb dX7_setRx_17 (by decide) ?_
    refine lv_iadd hx hb dX7_setRx_18 ?_
    refine k_top (y := 1) (by decide +kernel) ?_
    refine lv_iload_n hx hb dX7_setRx_19 rfl (lv_at hl11 3 rfl) ?_
    refine k_iast kx hK hP hD hS 0 rfl 1 rfl (by decide) (by decide) dX7_setRx_20 (fun H12 locs12 hP12 hD12 hS12 => ?_)
    have hP13 : va_P G.1 vwCl ([(h0, .inl (G.2.1, 55, .inl (upd f 1 p0)))]) H12 := hP12
    have hD14 : va_D A ([(h0, .inl (G.2.1, 55, .inl (upd f 1 p0)))]) := hD12
    refine lv_aload_n hx hb dX7_setRx_21 rfl (lv_at hl11 1 rfl) ?_
    refine lv_iload_n hx hb dX7_setRx_22 rfl (lv_at hl11 2 rfl) ?_
    refine lv_iconst (v := 4) hx hb dX7_setRx_23 (by decide) ?_
    refine lv_iadd hx hb dX7_setRx_24 ?_
    refine k_top (y := 4) (by decide +kernel) ?_
    refine lv_iload_n hx hb dX7_setRx_25 rfl (lv_at hl11 0 rfl) ?_
    refine lv_if_eq (x := 1) (tgt := 41) hx hb dX7_setRx_26 (by decide) (fun (c4 : 1 = 0) => absurd c4 (by decide)) (fun (c4 : ¬ (1 = 0)) => ?_)
    refine lv_aload_n hx hb dX7_setRx_29 rfl (lv_at hl11 1 rfl) ?_
    refine lv_iload_n hx hb dX7_setRx_30 rfl (lv_at hl11 2 rfl) ?_
    refine lv_iconst (v := 4) hx hb dX7_setRx_31 (by decide) ?_
    refine lv_iadd hx hb dX7_setRx_32 ?_
    refine k_top (y := 4) (by decide +kernel) ?_
    refine k_iald (v := (f 4)) kx hK hP13 0 rfl 4 rfl (by decide) (by decide) rfl dX7_setRx_33 ?_
    refine lv_iload_n hx hb dX7_setRx_34 rfl (lv_at hl11 3 rfl) ?_
    refine k_calli (kRunS (As := [.int (f 4), .int p0]) (rest := [.int 4, .ref h0]) kx (c_X7_max l G (f 4) p0) q_804 q_802 q_36 q_803 nX7_max ⟨Nat.le_of_ble_eq_true rfl, Nat.le_of_ble_eq_true rfl⟩ hK hP13 hD14 (kCtx_nil _) rfl hl11.1 (Nat.le_of_ble_eq_true rfl) dX7_setRx_35 ⟨Nat.zero_le _, Nat.zero_le _⟩) hP13 hD14 hS12 hA (kCtx_nil _) (fun _ => rfl) (fun r5 _ H15 locs15 hw hP15 hD15 hS15 => ?_)
    have hr5 : r_X7_max (f 4) p0 = r5 := (show r5 = r_X7_max (f 4) p0 from hw).symm
    have hP16 : va_P G.1 vwCl ([(h0, .inl (G.2.1, 55, .inl (upd f 1 p0)))]) H15 := hP15
    have hD17 : va_D A ([(h0, .inl (G.2.1, 55, .inl (upd f 1 p0)))]) := hD15
    refine lv_goto (tgt := 42) hx hb dX7_setRx_38 (by decide) ?_
    refine k_iast kx hK hP16 hD17 hS15 0 rfl 4 rfl (by decide) (by decide) dX7_setRx_42 (fun H18 locs18 hP18 hD18 hS18 => ?_)
    have hP19 : va_P G.1 vwCl ([(h0, .inl (G.2.1, 55, .inl (upd (upd f 1 p0) 4 r5)))]) H18 := hP18
    have hD20 : va_D A ([(h0, .inl (G.2.1, 55, .inl (upd (upd f 1 p0) 4 r5)))]) := hD18
    refine lv_aload_n hx hb dX7_setRx_43 rfl (lv_at hl11 1 rfl) ?_
    refine lv_iload_n hx hb dX7_setRx_44 rfl (lv_at hl11 2 rfl) ?_
    refine lv_bipush (v := 6) hx hb dX7_setRx_45 (by decide) ?_
    refine lv_iadd hx hb dX7_setRx_47 ?_
    refine k_top (y := 6) (by decide +kernel) ?_
    refine lv_iload_n hx hb dX7_setRx_48 rfl (lv_at hl11 0 rfl) ?_
    refine lv_if_eq (x := 1) (tgt := 56) hx hb dX7_setRx_49 (by decide) (fun (c6 : 1 = 0) => absurd c6 (by decide)) (fun (c6 : ¬ (1 = 0)) => ?_)
    refine lv_iconst (v := 1) hx hb dX7_setRx_52 (by decide) ?_
    refine lv_goto (tgt := 62) hx hb dX7_setRx_53 (by decide) ?_
    refine k_iast kx hK hP19 hD20 hS18 0 rfl 6 rfl (by decide) (by decide) dX7_setRx_62 (fun H21 locs21 hP21 hD21 hS21 => ?_)
    have hP22 : va_P G.1 vwCl ([(h0, .inl (G.2.1, 55, .inl (upd (upd (upd f 1 p0) 4 r5) 6 1)))]) H21 := hP21
    have hD23 : va_D A ([(h0, .inl (G.2.1, 55, .inl (upd (upd (upd f 1 p0) 4 r5) 6 1)))]) := hD21
    have e0 : s_X7_setRx_0_f f p0 = upd (upd (upd f 1 p0) 4 r5) 6 1 := by rw [s_X7_setRx_0_f]; (try rw [hr5]); rw [if_pos c1]
    exact k_vret kx hK hP22 hD23 hS21 (u := upd (upd (upd f 1 p0) 4 r5) 6 1) rfl e0.symm dX7_setRx_63

def s_X7_setRx_16_f (f : Nat → Int32) (p0 : Int32) : Nat → Int32 := if f 21 = 2 then (upd (upd (upd f 17 p0) 20 (r_X7_max (f 20) p0)) 22 1) else upd (upd (upd f 17 p0) 20 p0) 22 (f 22)
set_option maxHeartbeats 4000000 in
set_option maxRecDepth 100000 in
theorem c_X7_setRx_16 (l : Launch) (G : kG) (f : Nat → Int32) (h0 : Nat) (p0 : Int32) : cG l G yX7_setRx cX7_setRx 4 none 1 [.ref h0, .int 16, .int p0] ([(h0, .inl (G.2.1, 55, .inl f))]) (qV G (fun u : (Nat → Int32) => u = s_X7_setRx_16_f f p0) (fun u => [(h0, .inl (G.2.1, 55, .inl u))])) := by
  refine kintro (by decide) (Nat.le_of_ble_eq_true rfl) ?_
  intro p e s m args below meth c A ls kx hK hP hD hS hA hl
  have kx : kX p s m args meth c cX7_setRx 4 none RX7 := kx
  have hx := kx.1
  have hb := kx.2.1
  have hown := kx.2.2.2.2.1
  have ht := kx.2.2.2.2.2.2
  have hl : lv_has ls 4 [(0, .ref h0), (1, .int 16), (2, .int p0)] := hl
  refine lv_aload_n hx hb dX7_setRx_0 rfl (lv_at hl 0 rfl) ?_
  refine lv_iload_n hx hb dX7_setRx_1 rfl (lv_at hl 1 rfl) ?_
  refine lv_iconst (v := 5) hx hb dX7_setRx_2 (by decide) ?_
  refine lv_iadd hx hb dX7_setRx_3 ?_
  refine k_top (y := 21) (by decide +kernel) ?_
  refine k_iald (v := (f 21)) kx hK hP 0 rfl 21 rfl (by decide) (by decide) rfl dX7_setRx_4 ?_
  refine lv_iconst (v := 2) hx hb dX7_setRx_5 (by decide) ?_
  refine lv_icmp_ne (x := f 21) (y := 2) (tgt := 13) hx hb dX7_setRx_6 (by decide) (fun (c1 : ¬ (f 21 = 2)) => ?_) (fun (c1 : f 21 = 2) => ?_)
  · skip
    refine lv_iconst (v := 0) hx hb dX7_setRx_13 (by decide) ?_
    refine lv_istore_n (lv' := [(3, .int 0), (0, .ref h0), (1, .int 16), (2, .int p0)]) hx hb dX7_setRx_14 rfl hl (by decide) rfl (fun ls1 hl1 => ?_)
    refine lv_aload_n hx hb dX7_setRx_15 rfl (lv_at hl1 1 rfl) ?_
    refine lv_iload_n hx hb dX7_setRx_16 rfl (lv_at hl1 2 rfl) ?_
    refine lv_iconst (v := 1) hx hb dX7_setRx_17 (by decide) ?_
    refine lv_iadd hx hb dX7_setRx_18 ?_
    refine k_top (y := 17) (by decide +kernel) ?_
    refine lv_iload_n hx hb dX7_setRx_19 rfl (lv_at hl1 3 rfl) ?_
    refine k_iast kx hK hP hD hS 0 rfl 17 rfl (by decide) (by decide) dX7_setRx_20 (fun H2 locs2 hP2 hD2 hS2 => ?_)
    have hP3 : va_P G.1 vwCl ([(h0, .inl (G.2.1, 55, .inl (upd f 17 p0)))]) H2 := hP2
    have hD4 : va_D A ([(h0, .inl (G.2.1, 55, .inl (upd f 17 p0)))]) := hD2
    refine lv_aload_n hx hb dX7_setRx_21 rfl (lv_at hl1 1 rfl) ?_
    refine lv_iload_n hx hb dX7_setRx_22 rfl (lv_at hl1 2 rfl) ?_
    refine lv_iconst (v := 4) hx hb dX7_setRx_23 (by decide) ?_
    refine lv_iadd hx hb dX7_setRx_24 ?_
    refine k_top (y := 20) (by decide +kernel) ?_
    refine lv_iload_n hx hb dX7_setRx_25 rfl (lv_at hl1 0 rfl) ?_
    refine lv_if_eq (x := 0) (tgt := 41) hx hb dX7_setRx_26 (by decide) (fun (c2 : 0 = 0) => ?_) (fun (c2 : ¬ (0 = 0)) => absurd (by decide) c2)
    refine lv_iload_n hx hb dX7_setRx_41 rfl (lv_at hl1 3 rfl) ?_
    refine k_iast kx hK hP3 hD4 hS2 0 rfl 20 rfl (by decide) (by decide) dX7_setRx_42 (fun H5 locs5 hP5 hD5 hS5 => ?_)
    have hP6 : va_P G.1 vwCl ([(h0, .inl (G.2.1, 55, .inl (upd (upd f 17 p0) 20 p0)))]) H5 := hP5
    have hD7 : va_D A ([(h0, .inl (G.2.1, 55, .inl (upd (upd f 17 p0) 20 p0)))]) := hD5
    refine lv_aload_n hx hb dX7_setRx_43 rfl (lv_at hl1 1 rfl) ?_
    refine lv_iload_n hx hb dX7_setRx_44 rfl (lv_at hl1 2 rfl) ?_
    refine lv_bipush (v := 6) hx hb dX7_setRx_45 (by decide) ?_
    refine lv_iadd hx hb dX7_setRx_47 ?_
    refine k_top (y := 22) (by decide +kernel) ?_
    refine lv_iload_n hx hb dX7_setRx_48 rfl (lv_at hl1 0 rfl) ?_
    refine lv_if_eq (x := 0) (tgt := 56) hx hb dX7_setRx_49 (by decide) (fun (c3 : 0 = 0) => ?_) (fun (c3 : ¬ (0 = 0)) => absurd (by decide) c3)
    refine lv_aload_n hx hb dX7_setRx_56 rfl (lv_at hl1 1 rfl) ?_
    refine lv_iload_n hx hb dX7_setRx_57 rfl (lv_at hl1 2 rfl) ?_
    refine lv_bipush (v := 6) hx hb dX7_setRx_58 (by decide) ?_
    refine lv_iadd hx hb dX7_setRx_60 ?_
    refine k_top (y := 22) (by decide +kernel) ?_
    refine k_iald (v := (f 22)) kx hK hP6 0 rfl 22 rfl (by decide) (by decide) rfl dX7_setRx_61 ?_
    refine k_iast kx hK hP6 hD7 hS5 0 rfl 22 rfl (by decide) (by decide) dX7_setRx_62 (fun H8 locs8 hP8 hD8 hS8 => ?_)
    have hP9 : va_P G.1 vwCl ([(h0, .inl (G.2.1, 55, .inl (upd (upd (upd f 17 p0) 20 p0) 22 (f 22))))]) H8 := hP8
    have hD10 : va_D A ([(h0, .inl (G.2.1, 55, .inl (upd (upd (upd f 17 p0) 20 p0) 22 (f 22))))]) := hD8
    have e0 : s_X7_setRx_16_f f p0 = upd (upd (upd f 17 p0) 20 p0) 22 (f 22) := by rw [s_X7_setRx_16_f, if_neg c1]
    exact k_vret kx hK hP9 hD10 hS8 (u := upd (upd (upd f 17 p0) 20 p0) 22 (f 22)) rfl e0.symm dX7_setRx_63
  · skip
    refine lv_iconst (v := 1) hx hb dX7_setRx_9 (by decide) ?_
    refine lv_goto (tgt := 14) hx hb dX7_setRx_10 (by decide) ?_
    refine lv_istore_n (lv' := [(3, .int 1), (0, .ref h0), (1, .int 16), (2, .int p0)]) hx hb dX7_setRx_14 rfl hl (by decide) rfl (fun ls11 hl11 => ?_)
    refine lv_aload_n hx hb dX7_setRx_15 rfl (lv_at hl11 1 rfl) ?_
    refine lv_iload_n hx hb dX7_setRx_16 rfl (lv_at hl11 2 rfl) ?_
    refine lv_iconst (v := 1) hx hb dX7_setRx_17 (by decide) ?_
    refine lv_iadd hx hb dX7_setRx_18 ?_
    refine k_top (y := 17) (by decide +kernel) ?_
    refine lv_iload_n hx hb dX7_setRx_19 rfl (lv_at hl11 3 rfl) ?_
    refine k_iast kx hK hP hD hS 0 rfl 17 rfl (by decide) (by decide) dX7_setRx_20 (fun H12 locs12 hP12 hD12 hS12 => ?_)
    have hP13 : va_P G.1 vwCl ([(h0, .inl (G.2.1, 55, .inl (upd f 17 p0)))]) H12 := hP12
    have hD14 : va_D A ([(h0, .inl (G.2.1, 55, .inl (upd f 17 p0)))]) := hD12
    refine lv_aload_n hx hb dX7_setRx_21 rfl (lv_at hl11 1 rfl) ?_
    refine lv_iload_n hx hb dX7_setRx_22 rfl (lv_at hl11 2 rfl) ?_
    refine lv_iconst (v := 4) hx hb dX7_setRx_23 (by decide) ?_
    refine lv_iadd hx hb dX7_setRx_24 ?_
    refine k_top (y := 20) (by decide +kernel) ?_
    refine lv_iload_n hx hb dX7_setRx_25 rfl (lv_at hl11 0 rfl) ?_
    refine lv_if_eq (x := 1) (tgt := 41) hx hb dX7_setRx_26 (by decide) (fun (c4 : 1 = 0) => absurd c4 (by decide)) (fun (c4 : ¬ (1 = 0)) => ?_)
    refine lv_aload_n hx hb dX7_setRx_29 rfl (lv_at hl11 1 rfl) ?_
    refine lv_iload_n hx hb dX7_setRx_30 rfl (lv_at hl11 2 rfl) ?_
    refine lv_iconst (v := 4) hx hb dX7_setRx_31 (by decide) ?_
    refine lv_iadd hx hb dX7_setRx_32 ?_
    refine k_top (y := 20) (by decide +kernel) ?_
    refine k_iald (v := (f 20)) kx hK hP13 0 rfl 20 rfl (by decide) (by decide) rfl dX7_setRx_33 ?_
    refine lv_iload_n hx hb dX7_setRx_34 rfl (lv_at hl11 3 rfl) ?_
    refine k_calli (kRunS (As := [.int (f 20), .int p0]) (rest := [.int 20, .ref h0]) kx (c_X7_max l G (f 20) p0) q_804 q_802 q_36 q_803 nX7_max ⟨Nat.le_of_ble_eq_true rfl, Nat.le_of_ble_eq_true rfl⟩ hK hP13 hD14 (kCtx_nil _) rfl hl11.1 (Nat.le_of_ble_eq_true rfl) dX7_setRx_35 ⟨Nat.zero_le _, Nat.zero_le _⟩) hP13 hD14 hS12 hA (kCtx_nil _) (fun _ => rfl) (fun r5 _ H15 locs15 hw hP15 hD15 hS15 => ?_)
    have hr5 : r_X7_max (f 20) p0 = r5 := (show r5 = r_X7_max (f 20) p0 from hw).symm
    have hP16 : va_P G.1 vwCl ([(h0, .inl (G.2.1, 55, .inl (upd f 17 p0)))]) H15 := hP15
    have hD17 : va_D A ([(h0, .inl (G.2.1, 55, .inl (upd f 17 p0)))]) := hD15
    refine lv_goto (tgt := 42) hx hb dX7_setRx_38 (by decide) ?_
    refine k_iast kx hK hP16 hD17 hS15 0 rfl 20 rfl (by decide) (by decide) dX7_setRx_42 (fun H18 locs18 hP18 hD18 hS18 => ?_)
    have hP19 : va_P G.1 vwCl ([(h0, .inl (G.2.1, 55, .inl (upd (upd f 17 p0) 20 r5)))]) H18 := hP18
    have hD20 : va_D A ([(h0, .inl (G.2.1, 55, .inl (upd (upd f 17 p0) 20 r5)))]) := hD18
    refine lv_aload_n hx hb dX7_setRx_43 rfl (lv_at hl11 1 rfl) ?_
    refine lv_iload_n hx hb dX7_setRx_44 rfl (lv_at hl11 2 rfl) ?_
    refine lv_bipush (v := 6) hx hb dX7_setRx_45 (by decide) ?_
    refine lv_iadd hx hb dX7_setRx_47 ?_
    refine k_top (y := 22) (by decide +kernel) ?_
    refine lv_iload_n hx hb dX7_setRx_48 rfl (lv_at hl11 0 rfl) ?_
    refine lv_if_eq (x := 1) (tgt := 56) hx hb dX7_setRx_49 (by decide) (fun (c6 : 1 = 0) => absurd c6 (by decide)) (fun (c6 : ¬ (1 = 0)) => ?_)
    refine lv_iconst (v := 1) hx hb dX7_setRx_52 (by decide) ?_
    refine lv_goto (tgt := 62) hx hb dX7_setRx_53 (by decide) ?_
    refine k_iast kx hK hP19 hD20 hS18 0 rfl 22 rfl (by decide) (by decide) dX7_setRx_62 (fun H21 locs21 hP21 hD21 hS21 => ?_)
    have hP22 : va_P G.1 vwCl ([(h0, .inl (G.2.1, 55, .inl (upd (upd (upd f 17 p0) 20 r5) 22 1)))]) H21 := hP21
    have hD23 : va_D A ([(h0, .inl (G.2.1, 55, .inl (upd (upd (upd f 17 p0) 20 r5) 22 1)))]) := hD21
    have e0 : s_X7_setRx_16_f f p0 = upd (upd (upd f 17 p0) 20 r5) 22 1 := by rw [s_X7_setRx_16_f]; (try rw [hr5]); rw [if_pos c1]
    exact k_vret kx hK hP22 hD23 hS21 (u := upd (upd (upd f 17 p0) 20 r5) 22 1) rfl e0.symm dX7_setRx_63

def s_X7_hear_0_f (f : Nat → Int32) : Nat → Int32 := if f 44 = 0 then (if f 5 = 2 then (if f 49 = 1 then (if f 50 = 1 then (upd (upd (upd (upd (upd (upd (upd (upd (upd (upd (upd f 8 0) 11 (f 44)) 12 (f 45)) 13 (f 46)) 14 (f 47)) 15 (f 48)) 5 0) 6 0) 3 (f 0)) 4 (f 1)) 10 1) else upd (upd (upd (upd (upd (upd (upd (upd (upd (upd (upd f 8 0) 11 (f 44)) 12 (f 45)) 13 (f 46)) 14 (f 47)) 15 (f 48)) 5 0) 6 0) 3 (f 0)) 4 (f 1)) 10 1) else if f 50 = 1 then (upd (upd (upd (upd (upd (upd (upd (upd (upd (upd (upd f 8 0) 11 (f 44)) 12 (f 45)) 13 (f 46)) 14 (f 47)) 15 (f 48)) 5 0) 6 0) 3 (f 0)) 4 (f 1)) 10 (f 10)) else upd (upd (upd (upd (upd (upd (upd (upd (upd (upd (upd f 8 0) 11 (f 44)) 12 (f 45)) 13 (f 46)) 14 (f 47)) 15 (f 48)) 5 0) 6 0) 3 (f 0)) 4 (f 1)) 10 (f 10)) else if f 49 = 1 then (if f 50 = 1 then (if f 6 = 1 then (upd (upd (upd (upd (upd (upd (upd (upd (upd (upd (upd f 8 0) 11 (f 44)) 12 (f 45)) 13 (f 46)) 14 (f 47)) 15 (f 48)) 5 1) 10 1) 6 0) 3 (f 0)) 4 (f 1)) else upd (upd (upd (upd (upd (upd (upd (upd f 8 0) 11 (f 44)) 12 (f 45)) 13 (f 46)) 14 (f 47)) 15 (f 48)) 5 1) 10 1) else upd (upd (upd (upd (upd (upd (upd (upd f 8 0) 11 (f 44)) 12 (f 45)) 13 (f 46)) 14 (f 47)) 15 (f 48)) 5 1) 10 1) else if f 50 = 1 then (if f 6 = 1 then (upd (upd (upd (upd (upd (upd (upd (upd (upd (upd (upd f 8 0) 11 (f 44)) 12 (f 45)) 13 (f 46)) 14 (f 47)) 15 (f 48)) 5 1) 10 (f 10)) 6 0) 3 (f 0)) 4 (f 1)) else upd (upd (upd (upd (upd (upd (upd (upd f 8 0) 11 (f 44)) 12 (f 45)) 13 (f 46)) 14 (f 47)) 15 (f 48)) 5 1) 10 (f 10)) else upd (upd (upd (upd (upd (upd (upd (upd f 8 0) 11 (f 44)) 12 (f 45)) 13 (f 46)) 14 (f 47)) 15 (f 48)) 5 1) 10 (f 10)) else if f 44 = 1 then (if f 49 = 1 then (if f 50 = 1 then (if f 6 = 1 then (upd (upd (upd (upd (upd (upd (upd (upd (upd (upd (upd f 8 0) 11 (f 44)) 12 (f 45)) 13 (f 46)) 14 (f 47)) 15 (f 48)) 5 2) 10 1) 6 0) 3 (f 0)) 4 (f 1)) else upd (upd (upd (upd (upd (upd (upd (upd f 8 0) 11 (f 44)) 12 (f 45)) 13 (f 46)) 14 (f 47)) 15 (f 48)) 5 2) 10 1) else upd (upd (upd (upd (upd (upd (upd (upd f 8 0) 11 (f 44)) 12 (f 45)) 13 (f 46)) 14 (f 47)) 15 (f 48)) 5 2) 10 1) else if f 50 = 1 then (if f 6 = 1 then (upd (upd (upd (upd (upd (upd (upd (upd (upd (upd (upd f 8 0) 11 (f 44)) 12 (f 45)) 13 (f 46)) 14 (f 47)) 15 (f 48)) 5 2) 10 (f 10)) 6 0) 3 (f 0)) 4 (f 1)) else upd (upd (upd (upd (upd (upd (upd (upd f 8 0) 11 (f 44)) 12 (f 45)) 13 (f 46)) 14 (f 47)) 15 (f 48)) 5 2) 10 (f 10)) else upd (upd (upd (upd (upd (upd (upd (upd f 8 0) 11 (f 44)) 12 (f 45)) 13 (f 46)) 14 (f 47)) 15 (f 48)) 5 2) 10 (f 10)) else if f 5 = 1 then (if f 49 = 1 then (if f 50 = 1 then (if f 6 = 1 then (upd (upd (upd (upd (upd (upd (upd (upd (upd (upd (upd f 8 0) 11 (f 44)) 12 (f 45)) 13 (f 46)) 14 (f 47)) 15 (f 48)) 5 2) 10 1) 6 0) 3 (f 0)) 4 (f 1)) else upd (upd (upd (upd (upd (upd (upd (upd f 8 0) 11 (f 44)) 12 (f 45)) 13 (f 46)) 14 (f 47)) 15 (f 48)) 5 2) 10 1) else upd (upd (upd (upd (upd (upd (upd (upd f 8 0) 11 (f 44)) 12 (f 45)) 13 (f 46)) 14 (f 47)) 15 (f 48)) 5 2) 10 1) else if f 50 = 1 then (if f 6 = 1 then (upd (upd (upd (upd (upd (upd (upd (upd (upd (upd (upd f 8 0) 11 (f 44)) 12 (f 45)) 13 (f 46)) 14 (f 47)) 15 (f 48)) 5 2) 10 (f 10)) 6 0) 3 (f 0)) 4 (f 1)) else upd (upd (upd (upd (upd (upd (upd (upd f 8 0) 11 (f 44)) 12 (f 45)) 13 (f 46)) 14 (f 47)) 15 (f 48)) 5 2) 10 (f 10)) else upd (upd (upd (upd (upd (upd (upd (upd f 8 0) 11 (f 44)) 12 (f 45)) 13 (f 46)) 14 (f 47)) 15 (f 48)) 5 2) 10 (f 10)) else if f 49 = 1 then (if f 50 = 1 then (if f 6 = 1 then (upd (upd (upd (upd (upd (upd (upd (upd (upd (upd (upd f 8 0) 11 (f 44)) 12 (f 45)) 13 (f 46)) 14 (f 47)) 15 (f 48)) 5 (f 5)) 10 1) 6 0) 3 (f 0)) 4 (f 1)) else upd (upd (upd (upd (upd (upd (upd (upd f 8 0) 11 (f 44)) 12 (f 45)) 13 (f 46)) 14 (f 47)) 15 (f 48)) 5 (f 5)) 10 1) else upd (upd (upd (upd (upd (upd (upd (upd f 8 0) 11 (f 44)) 12 (f 45)) 13 (f 46)) 14 (f 47)) 15 (f 48)) 5 (f 5)) 10 1) else if f 50 = 1 then (if f 6 = 1 then (upd (upd (upd (upd (upd (upd (upd (upd (upd (upd (upd f 8 0) 11 (f 44)) 12 (f 45)) 13 (f 46)) 14 (f 47)) 15 (f 48)) 5 (f 5)) 10 (f 10)) 6 0) 3 (f 0)) 4 (f 1)) else upd (upd (upd (upd (upd (upd (upd (upd f 8 0) 11 (f 44)) 12 (f 45)) 13 (f 46)) 14 (f 47)) 15 (f 48)) 5 (f 5)) 10 (f 10)) else upd (upd (upd (upd (upd (upd (upd (upd f 8 0) 11 (f 44)) 12 (f 45)) 13 (f 46)) 14 (f 47)) 15 (f 48)) 5 (f 5)) 10 (f 10)
set_option maxHeartbeats 4000000 in
set_option maxRecDepth 100000 in
theorem c_X7_hear_0 (l : Launch) (G : kG) (f : Nat → Int32) (h0 : Nat) : cG l G yX7_hear cX7_hear 5 none 2 [.ref h0, .int 0, .int 43] ([(h0, .inl (G.2.1, 55, .inl f))]) (qV G (fun u : (Nat → Int32) => u = s_X7_hear_0_f f) (fun u => [(h0, .inl (G.2.1, 55, .inl u))])) := by
  refine kintro (by decide) (Nat.le_of_ble_eq_true rfl) ?_
  intro p e s m args below meth c A ls kx hK hP hD hS hA hl
  have kx : kX p s m args meth c cX7_hear 5 none RX7 := kx
  have hx := kx.1
  have hb := kx.2.1
  have hown := kx.2.2.2.2.1
  have ht := kx.2.2.2.2.2.2
  have hl : lv_has ls 5 [(0, .ref h0), (1, .int 0), (2, .int 43)] := hl
  refine lv_aload_n hx hb dX7_hear_0 rfl (lv_at hl 0 rfl) ?_
  refine lv_iload_n hx hb dX7_hear_1 rfl (lv_at hl 1 rfl) ?_
  refine lv_bipush (v := 8) hx hb dX7_hear_2 (by decide) ?_
  refine lv_iadd hx hb dX7_hear_4 ?_
  refine k_top (y := 8) (by decide +kernel) ?_
  refine lv_iconst (v := 0) hx hb dX7_hear_5 (by decide) ?_
  refine k_iast kx hK hP hD hS 0 rfl 8 rfl (by decide) (by decide) dX7_hear_6 (fun H1 locs1 hP1 hD1 hS1 => ?_)
  have hP2 : va_P G.1 vwCl ([(h0, .inl (G.2.1, 55, .inl (upd f 8 0)))]) H1 := hP1
  have hD3 : va_D A ([(h0, .inl (G.2.1, 55, .inl (upd f 8 0)))]) := hD1
  refine lv_iconst (v := 0) hx hb dX7_hear_7 (by decide) ?_
  refine lv_istore_n (lv' := [(3, .int 0), (0, .ref h0), (1, .int 0), (2, .int 43)]) hx hb dX7_hear_8 rfl hl (by decide) rfl (fun ls4 hl4 => ?_)
  refine lv_iload_n hx hb dX7_hear_9 rfl (lv_at hl4 0 rfl) ?_
  refine lv_iconst (v := 5) hx hb dX7_hear_10 (by decide) ?_
  refine lv_icmp_ge (x := 0) (y := 5) (tgt := 35) hx hb dX7_hear_11 (by decide) (fun (c1 : 5 ≤ 0) => absurd c1 (by decide)) (fun (c1 : ¬ (5 ≤ 0)) => ?_)
  refine lv_aload_n hx hb dX7_hear_14 rfl (lv_at hl4 1 rfl) ?_
  refine lv_iload_n hx hb dX7_hear_15 rfl (lv_at hl4 2 rfl) ?_
  refine lv_bipush (v := 11) hx hb dX7_hear_16 (by decide) ?_
  refine lv_iadd hx hb dX7_hear_18 ?_
  refine k_top (y := 11) (by decide +kernel) ?_
  refine lv_iload_n hx hb dX7_hear_19 rfl (lv_at hl4 0 rfl) ?_
  refine lv_iadd hx hb dX7_hear_20 ?_
  refine k_top (y := 11) (by decide +kernel) ?_
  refine lv_aload_n hx hb dX7_hear_21 rfl (lv_at hl4 1 rfl) ?_
  refine lv_iload_n hx hb dX7_hear_22 rfl (lv_at hl4 3 rfl) ?_
  refine lv_iconst (v := 1) hx hb dX7_hear_23 (by decide) ?_
  refine lv_iadd hx hb dX7_hear_24 ?_
  refine k_top (y := 44) (by decide +kernel) ?_
  refine lv_iload_n hx hb dX7_hear_25 rfl (lv_at hl4 0 rfl) ?_
  refine lv_iadd hx hb dX7_hear_26 ?_
  refine k_top (y := 44) (by decide +kernel) ?_
  refine k_iald (v := (f 44)) kx hK hP2 0 rfl 44 rfl (by decide) (by decide) rfl dX7_hear_27 ?_
  refine k_iast kx hK hP2 hD3 hS1 0 rfl 11 rfl (by decide) (by decide) dX7_hear_28 (fun H5 locs5 hP5 hD5 hS5 => ?_)
  have hP6 : va_P G.1 vwCl ([(h0, .inl (G.2.1, 55, .inl (upd (upd f 8 0) 11 (f 44))))]) H5 := hP5
  have hD7 : va_D A ([(h0, .inl (G.2.1, 55, .inl (upd (upd f 8 0) 11 (f 44))))]) := hD5
  refine lv_iinc (v := 1) (lv' := [(3, .int 1), (0, .ref h0), (1, .int 0), (2, .int 43)]) hx hb dX7_hear_29 hl4 (k := 0) rfl (by decide +kernel) (by decide) rfl (fun ls8 hl8 => ?_)
  refine lv_goto (tgt := 9) hx hb dX7_hear_32 (by decide) ?_
  refine lv_iload_n hx hb dX7_hear_9 rfl (lv_at hl8 0 rfl) ?_
  refine lv_iconst (v := 5) hx hb dX7_hear_10 (by decide) ?_
  refine lv_icmp_ge (x := 1) (y := 5) (tgt := 35) hx hb dX7_hear_11 (by decide) (fun (c2 : 5 ≤ 1) => absurd c2 (by decide)) (fun (c2 : ¬ (5 ≤ 1)) => ?_)
  refine lv_aload_n hx hb dX7_hear_14 rfl (lv_at hl8 1 rfl) ?_
  refine lv_iload_n hx hb dX7_hear_15 rfl (lv_at hl8 2 rfl) ?_
  refine lv_bipush (v := 11) hx hb dX7_hear_16 (by decide) ?_
  refine lv_iadd hx hb dX7_hear_18 ?_
  refine k_top (y := 11) (by decide +kernel) ?_
  refine lv_iload_n hx hb dX7_hear_19 rfl (lv_at hl8 0 rfl) ?_
  refine lv_iadd hx hb dX7_hear_20 ?_
  refine k_top (y := 12) (by decide +kernel) ?_
  refine lv_aload_n hx hb dX7_hear_21 rfl (lv_at hl8 1 rfl) ?_
  refine lv_iload_n hx hb dX7_hear_22 rfl (lv_at hl8 3 rfl) ?_
  refine lv_iconst (v := 1) hx hb dX7_hear_23 (by decide) ?_
  refine lv_iadd hx hb dX7_hear_24 ?_
  refine k_top (y := 44) (by decide +kernel) ?_
  refine lv_iload_n hx hb dX7_hear_25 rfl (lv_at hl8 0 rfl) ?_
  refine lv_iadd hx hb dX7_hear_26 ?_
  refine k_top (y := 45) (by decide +kernel) ?_
  refine k_iald (v := (f 45)) kx hK hP6 0 rfl 45 rfl (by decide) (by decide) rfl dX7_hear_27 ?_
  refine k_iast kx hK hP6 hD7 hS5 0 rfl 12 rfl (by decide) (by decide) dX7_hear_28 (fun H9 locs9 hP9 hD9 hS9 => ?_)
  have hP10 : va_P G.1 vwCl ([(h0, .inl (G.2.1, 55, .inl (upd (upd (upd f 8 0) 11 (f 44)) 12 (f 45))))]) H9 := hP9
  have hD11 : va_D A ([(h0, .inl (G.2.1, 55, .inl (upd (upd (upd f 8 0) 11 (f 44)) 12 (f 45))))]) := hD9
  refine lv_iinc (v := 2) (lv' := [(3, .int 2), (0, .ref h0), (1, .int 0), (2, .int 43)]) hx hb dX7_hear_29 hl8 (k := 0) rfl (by decide +kernel) (by decide) rfl (fun ls12 hl12 => ?_)
  refine lv_goto (tgt := 9) hx hb dX7_hear_32 (by decide) ?_
  refine lv_iload_n hx hb dX7_hear_9 rfl (lv_at hl12 0 rfl) ?_
  refine lv_iconst (v := 5) hx hb dX7_hear_10 (by decide) ?_
  refine lv_icmp_ge (x := 2) (y := 5) (tgt := 35) hx hb dX7_hear_11 (by decide) (fun (c3 : 5 ≤ 2) => absurd c3 (by decide)) (fun (c3 : ¬ (5 ≤ 2)) => ?_)
  refine lv_aload_n hx hb dX7_hear_14 rfl (lv_at hl12 1 rfl) ?_
  refine lv_iload_n hx hb dX7_hear_15 rfl (lv_at hl12 2 rfl) ?_
  refine lv_bipush (v := 11) hx hb dX7_hear_16 (by decide) ?_
  refine lv_iadd hx hb dX7_hear_18 ?_
  refine k_top (y := 11) (by decide +kernel) ?_
  refine lv_iload_n hx hb dX7_hear_19 rfl (lv_at hl12 0 rfl) ?_
  refine lv_iadd hx hb dX7_hear_20 ?_
  refine k_top (y := 13) (by decide +kernel) ?_
  refine lv_aload_n hx hb dX7_hear_21 rfl (lv_at hl12 1 rfl) ?_
  refine lv_iload_n hx hb dX7_hear_22 rfl (lv_at hl12 3 rfl) ?_
  refine lv_iconst (v := 1) hx hb dX7_hear_23 (by decide) ?_
  refine lv_iadd hx hb dX7_hear_24 ?_
  refine k_top (y := 44) (by decide +kernel) ?_
  refine lv_iload_n hx hb dX7_hear_25 rfl (lv_at hl12 0 rfl) ?_
  refine lv_iadd hx hb dX7_hear_26 ?_
  refine k_top (y := 46) (by decide +kernel) ?_
  refine k_iald (v := (f 46)) kx hK hP10 0 rfl 46 rfl (by decide) (by decide) rfl dX7_hear_27 ?_
  refine k_iast kx hK hP10 hD11 hS9 0 rfl 13 rfl (by decide) (by decide) dX7_hear_28 (fun H13 locs13 hP13 hD13 hS13 => ?_)
  have hP14 : va_P G.1 vwCl ([(h0, .inl (G.2.1, 55, .inl (upd (upd (upd (upd f 8 0) 11 (f 44)) 12 (f 45)) 13 (f 46))))]) H13 := hP13
  have hD15 : va_D A ([(h0, .inl (G.2.1, 55, .inl (upd (upd (upd (upd f 8 0) 11 (f 44)) 12 (f 45)) 13 (f 46))))]) := hD13
  refine lv_iinc (v := 3) (lv' := [(3, .int 3), (0, .ref h0), (1, .int 0), (2, .int 43)]) hx hb dX7_hear_29 hl12 (k := 0) rfl (by decide +kernel) (by decide) rfl (fun ls16 hl16 => ?_)
  refine lv_goto (tgt := 9) hx hb dX7_hear_32 (by decide) ?_
  refine lv_iload_n hx hb dX7_hear_9 rfl (lv_at hl16 0 rfl) ?_
  refine lv_iconst (v := 5) hx hb dX7_hear_10 (by decide) ?_
  refine lv_icmp_ge (x := 3) (y := 5) (tgt := 35) hx hb dX7_hear_11 (by decide) (fun (c4 : 5 ≤ 3) => absurd c4 (by decide)) (fun (c4 : ¬ (5 ≤ 3)) => ?_)
  refine lv_aload_n hx hb dX7_hear_14 rfl (lv_at hl16 1 rfl) ?_
  refine lv_iload_n hx hb dX7_hear_15 rfl (lv_at hl16 2 rfl) ?_
  refine lv_bipush (v := 11) hx hb dX7_hear_16 (by decide) ?_
  refine lv_iadd hx hb dX7_hear_18 ?_
  refine k_top (y := 11) (by decide +kernel) ?_
  refine lv_iload_n hx hb dX7_hear_19 rfl (lv_at hl16 0 rfl) ?_
  refine lv_iadd hx hb dX7_hear_20 ?_
  refine k_top (y := 14) (by decide +kernel) ?_
  refine lv_aload_n hx hb dX7_hear_21 rfl (lv_at hl16 1 rfl) ?_
  refine lv_iload_n hx hb dX7_hear_22 rfl (lv_at hl16 3 rfl) ?_
  refine lv_iconst (v := 1) hx hb dX7_hear_23 (by decide) ?_
  refine lv_iadd hx hb dX7_hear_24 ?_
  refine k_top (y := 44) (by decide +kernel) ?_
  refine lv_iload_n hx hb dX7_hear_25 rfl (lv_at hl16 0 rfl) ?_
  refine lv_iadd hx hb dX7_hear_26 ?_
  refine k_top (y := 47) (by decide +kernel) ?_
  refine k_iald (v := (f 47)) kx hK hP14 0 rfl 47 rfl (by decide) (by decide) rfl dX7_hear_27 ?_
  refine k_iast kx hK hP14 hD15 hS13 0 rfl 14 rfl (by decide) (by decide) dX7_hear_28 (fun H17 locs17 hP17 hD17 hS17 => ?_)
  have hP18 : va_P G.1 vwCl ([(h0, .inl (G.2.1, 55, .inl (upd (upd (upd (upd (upd f 8 0) 11 (f 44)) 12 (f 45)) 13 (f 46)) 14 (f 47))))]) H17 := hP17
  have hD19 : va_D A ([(h0, .inl (G.2.1, 55, .inl (upd (upd (upd (upd (upd f 8 0) 11 (f 44)) 12 (f 45)) 13 (f 46)) 14 (f 47))))]) := hD17
  refine lv_iinc (v := 4) (lv' := [(3, .int 4), (0, .ref h0), (1, .int 0), (2, .int 43)]) hx hb dX7_hear_29 hl16 (k := 0) rfl (by decide +kernel) (by decide) rfl (fun ls20 hl20 => ?_)
  refine lv_goto (tgt := 9) hx hb dX7_hear_32 (by decide) ?_
  refine lv_iload_n hx hb dX7_hear_9 rfl (lv_at hl20 0 rfl) ?_
  refine lv_iconst (v := 5) hx hb dX7_hear_10 (by decide) ?_
  refine lv_icmp_ge (x := 4) (y := 5) (tgt := 35) hx hb dX7_hear_11 (by decide) (fun (c5 : 5 ≤ 4) => absurd c5 (by decide)) (fun (c5 : ¬ (5 ≤ 4)) => ?_)
  refine lv_aload_n hx hb dX7_hear_14 rfl (lv_at hl20 1 rfl) ?_
  refine lv_iload_n hx hb dX7_hear_15 rfl (lv_at hl20 2 rfl) ?_
  refine lv_bipush (v := 11) hx hb dX7_hear_16 (by decide) ?_
  refine lv_iadd hx hb dX7_hear_18 ?_
  refine k_top (y := 11) (by decide +kernel) ?_
  refine lv_iload_n hx hb dX7_hear_19 rfl (lv_at hl20 0 rfl) ?_
  refine lv_iadd hx hb dX7_hear_20 ?_
  refine k_top (y := 15) (by decide +kernel) ?_
  refine lv_aload_n hx hb dX7_hear_21 rfl (lv_at hl20 1 rfl) ?_
  refine lv_iload_n hx hb dX7_hear_22 rfl (lv_at hl20 3 rfl) ?_
  refine lv_iconst (v := 1) hx hb dX7_hear_23 (by decide) ?_
  refine lv_iadd hx hb dX7_hear_24 ?_
  refine k_top (y := 44) (by decide +kernel) ?_
  refine lv_iload_n hx hb dX7_hear_25 rfl (lv_at hl20 0 rfl) ?_
  refine lv_iadd hx hb dX7_hear_26 ?_
  refine k_top (y := 48) (by decide +kernel) ?_
  refine k_iald (v := (f 48)) kx hK hP18 0 rfl 48 rfl (by decide) (by decide) rfl dX7_hear_27 ?_
  refine k_iast kx hK hP18 hD19 hS17 0 rfl 15 rfl (by decide) (by decide) dX7_hear_28 (fun H21 locs21 hP21 hD21 hS21 => ?_)
  have hP22 : va_P G.1 vwCl ([(h0, .inl (G.2.1, 55, .inl (upd (upd (upd (upd (upd (upd f 8 0) 11 (f 44)) 12 (f 45)) 13 (f 46)) 14 (f 47)) 15 (f 48))))]) H21 := hP21
  have hD23 : va_D A ([(h0, .inl (G.2.1, 55, .inl (upd (upd (upd (upd (upd (upd f 8 0) 11 (f 44)) 12 (f 45)) 13 (f 46)) 14 (f 47)) 15 (f 48))))]) := hD21
  refine lv_iinc (v := 5) (lv' := [(3, .int 5), (0, .ref h0), (1, .int 0), (2, .int 43)]) hx hb dX7_hear_29 hl20 (k := 0) rfl (by decide +kernel) (by decide) rfl (fun ls24 hl24 => ?_)
  refine lv_goto (tgt := 9) hx hb dX7_hear_32 (by decide) ?_
  refine lv_iload_n hx hb dX7_hear_9 rfl (lv_at hl24 0 rfl) ?_
  refine lv_iconst (v := 5) hx hb dX7_hear_10 (by decide) ?_
  refine lv_icmp_ge (x := 5) (y := 5) (tgt := 35) hx hb dX7_hear_11 (by decide) (fun (c6 : 5 ≤ 5) => ?_) (fun (c6 : ¬ (5 ≤ 5)) => absurd (by decide) c6)
  refine lv_aload_n hx hb dX7_hear_35 rfl (lv_at hl24 1 rfl) ?_
  refine lv_iload_n hx hb dX7_hear_36 rfl (lv_at hl24 3 rfl) ?_
  refine lv_iconst (v := 1) hx hb dX7_hear_37 (by decide) ?_
  refine lv_iadd hx hb dX7_hear_38 ?_
  refine k_top (y := 44) (by decide +kernel) ?_
  refine k_iald (v := (f 44)) kx hK hP22 0 rfl 44 rfl (by decide) (by decide) rfl dX7_hear_39 ?_
  refine lv_istore_n (lv' := [(3, .int (f 44)), (0, .ref h0), (1, .int 0), (2, .int 43)]) hx hb dX7_hear_40 rfl hl24 (by decide) rfl (fun ls25 hl25 => ?_)
  refine lv_aload_n hx hb dX7_hear_41 rfl (lv_at hl25 1 rfl) ?_
  refine lv_iload_n hx hb dX7_hear_42 rfl (lv_at hl25 2 rfl) ?_
  refine lv_iconst (v := 5) hx hb dX7_hear_43 (by decide) ?_
  refine lv_iadd hx hb dX7_hear_44 ?_
  refine k_top (y := 5) (by decide +kernel) ?_
  refine k_iald (v := (f 5)) kx hK hP22 0 rfl 5 rfl (by decide) (by decide) rfl dX7_hear_45 ?_
  refine lv_istore (lv' := [(4, .int (f 5)), (3, .int (f 44)), (0, .ref h0), (1, .int 0), (2, .int 43)]) hx hb dX7_hear_46 hl25 (by decide) rfl (fun ls26 hl26 => ?_)
  refine lv_iload_n hx hb dX7_hear_48 rfl (lv_at hl26 1 rfl) ?_
  refine lv_if_ne (x := f 44) (tgt := 75) hx hb dX7_hear_49 (by decide) (fun (c7 : ¬ (f 44 = 0)) => ?_) (fun (c7 : f 44 = 0) => ?_)
  · skip
    refine lv_iload_n hx hb dX7_hear_75 rfl (lv_at hl26 1 rfl) ?_
    refine lv_iconst (v := 1) hx hb dX7_hear_76 (by decide) ?_
    refine lv_icmp_ne (x := f 44) (y := 1) (tgt := 89) hx hb dX7_hear_77 (by decide) (fun (c8 : ¬ (f 44 = 1)) => ?_) (fun (c8 : f 44 = 1) => ?_)
    · skip
      refine lv_aload_n hx hb dX7_hear_89 rfl (lv_at hl26 2 rfl) ?_
      refine lv_iload_n hx hb dX7_hear_90 rfl (lv_at hl26 3 rfl) ?_
      refine lv_iconst (v := 5) hx hb dX7_hear_91 (by decide) ?_
      refine lv_iadd hx hb dX7_hear_92 ?_
      refine k_top (y := 5) (by decide +kernel) ?_
      refine lv_iload hx hb dX7_hear_93 (lv_at hl26 0 rfl) ?_
      refine lv_iconst (v := 1) hx hb dX7_hear_95 (by decide) ?_
      refine lv_icmp_ne (x := f 5) (y := 1) (tgt := 103) hx hb dX7_hear_96 (by decide) (fun (c9 : ¬ (f 5 = 1)) => ?_) (fun (c9 : f 5 = 1) => ?_)
      · skip
        refine lv_iload hx hb dX7_hear_103 (lv_at hl26 0 rfl) ?_
        refine k_iast kx hK hP22 hD23 hS21 0 rfl 5 rfl (by decide) (by decide) dX7_hear_105 (fun H27 locs27 hP27 hD27 hS27 => ?_)
        have hP28 : va_P G.1 vwCl ([(h0, .inl (G.2.1, 55, .inl (upd (upd (upd (upd (upd (upd (upd f 8 0) 11 (f 44)) 12 (f 45)) 13 (f 46)) 14 (f 47)) 15 (f 48)) 5 (f 5))))]) H27 := hP27
        have hD29 : va_D A ([(h0, .inl (G.2.1, 55, .inl (upd (upd (upd (upd (upd (upd (upd f 8 0) 11 (f 44)) 12 (f 45)) 13 (f 46)) 14 (f 47)) 15 (f 48)) 5 (f 5))))]) := hD27
        refine lv_aload_n hx hb dX7_hear_106 rfl (lv_at hl26 2 rfl) ?_
        refine lv_iload_n hx hb dX7_hear_107 rfl (lv_at hl26 3 rfl) ?_
        refine lv_bipush (v := 10) hx hb dX7_hear_108 (by decide) ?_
        refine lv_iadd hx hb dX7_hear_110 ?_
        refine k_top (y := 10) (by decide +kernel) ?_
        refine lv_aload_n hx hb dX7_hear_111 rfl (lv_at hl26 2 rfl) ?_
        refine lv_iload_n hx hb dX7_hear_112 rfl (lv_at hl26 4 rfl) ?_
        refine lv_bipush (v := 6) hx hb dX7_hear_113 (by decide) ?_
        refine lv_iadd hx hb dX7_hear_115 ?_
        refine k_top (y := 49) (by decide +kernel) ?_
        refine k_iald (v := (f 49)) kx hK hP28 0 rfl 49 rfl (by decide) (by decide) rfl dX7_hear_116 ?_
        refine lv_iconst (v := 1) hx hb dX7_hear_117 (by decide) ?_
        refine lv_icmp_ne (x := f 49) (y := 1) (tgt := 125) hx hb dX7_hear_118 (by decide) (fun (c10 : ¬ (f 49 = 1)) => ?_) (fun (c10 : f 49 = 1) => ?_)
        · skip
          refine lv_aload_n hx hb dX7_hear_125 rfl (lv_at hl26 2 rfl) ?_
          refine lv_iload_n hx hb dX7_hear_126 rfl (lv_at hl26 3 rfl) ?_
          refine lv_bipush (v := 10) hx hb dX7_hear_127 (by decide) ?_
          refine lv_iadd hx hb dX7_hear_129 ?_
          refine k_top (y := 10) (by decide +kernel) ?_
          refine k_iald (v := (f 10)) kx hK hP28 0 rfl 10 rfl (by decide) (by decide) rfl dX7_hear_130 ?_
          refine k_iast kx hK hP28 hD29 hS27 0 rfl 10 rfl (by decide) (by decide) dX7_hear_131 (fun H30 locs30 hP30 hD30 hS30 => ?_)
          have hP31 : va_P G.1 vwCl ([(h0, .inl (G.2.1, 55, .inl (upd (upd (upd (upd (upd (upd (upd (upd f 8 0) 11 (f 44)) 12 (f 45)) 13 (f 46)) 14 (f 47)) 15 (f 48)) 5 (f 5)) 10 (f 10))))]) H30 := hP30
          have hD32 : va_D A ([(h0, .inl (G.2.1, 55, .inl (upd (upd (upd (upd (upd (upd (upd (upd f 8 0) 11 (f 44)) 12 (f 45)) 13 (f 46)) 14 (f 47)) 15 (f 48)) 5 (f 5)) 10 (f 10))))]) := hD30
          refine lv_aload_n hx hb dX7_hear_132 rfl (lv_at hl26 2 rfl) ?_
          refine lv_iload_n hx hb dX7_hear_133 rfl (lv_at hl26 4 rfl) ?_
          refine lv_bipush (v := 7) hx hb dX7_hear_134 (by decide) ?_
          refine lv_iadd hx hb dX7_hear_136 ?_
          refine k_top (y := 50) (by decide +kernel) ?_
          refine k_iald (v := (f 50)) kx hK hP31 0 rfl 50 rfl (by decide) (by decide) rfl dX7_hear_137 ?_
          refine lv_iconst (v := 1) hx hb dX7_hear_138 (by decide) ?_
          refine lv_icmp_ne (x := f 50) (y := 1) (tgt := 164) hx hb dX7_hear_139 (by decide) (fun (c11 : ¬ (f 50 = 1)) => ?_) (fun (c11 : f 50 = 1) => ?_)
          · skip
            have e0 : s_X7_hear_0_f f = upd (upd (upd (upd (upd (upd (upd (upd f 8 0) 11 (f 44)) 12 (f 45)) 13 (f 46)) 14 (f 47)) 15 (f 48)) 5 (f 5)) 10 (f 10) := by rw [s_X7_hear_0_f, if_neg c7, if_neg c8, if_neg c9, if_neg c10, if_neg c11]
            exact k_vret kx hK hP31 hD32 hS30 (u := upd (upd (upd (upd (upd (upd (upd (upd f 8 0) 11 (f 44)) 12 (f 45)) 13 (f 46)) 14 (f 47)) 15 (f 48)) 5 (f 5)) 10 (f 10)) rfl e0.symm dX7_hear_164
          · skip
            refine lv_aload_n hx hb dX7_hear_142 rfl (lv_at hl26 2 rfl) ?_
            refine lv_iload_n hx hb dX7_hear_143 rfl (lv_at hl26 3 rfl) ?_
            refine lv_bipush (v := 6) hx hb dX7_hear_144 (by decide) ?_
            refine lv_iadd hx hb dX7_hear_146 ?_
            refine k_top (y := 6) (by decide +kernel) ?_
            refine k_iald (v := (f 6)) kx hK hP31 0 rfl 6 rfl (by decide) (by decide) rfl dX7_hear_147 ?_
            refine lv_iconst (v := 1) hx hb dX7_hear_148 (by decide) ?_
            refine lv_icmp_ne (x := f 6) (y := 1) (tgt := 164) hx hb dX7_hear_149 (by decide) (fun (c12 : ¬ (f 6 = 1)) => ?_) (fun (c12 : f 6 = 1) => ?_)
            · skip
              have e0 : s_X7_hear_0_f f = upd (upd (upd (upd (upd (upd (upd (upd f 8 0) 11 (f 44)) 12 (f 45)) 13 (f 46)) 14 (f 47)) 15 (f 48)) 5 (f 5)) 10 (f 10) := by rw [s_X7_hear_0_f, if_neg c7, if_neg c8, if_neg c9, if_neg c10, if_pos c11, if_neg c12]
              exact k_vret kx hK hP31 hD32 hS30 (u := upd (upd (upd (upd (upd (upd (upd (upd f 8 0) 11 (f 44)) 12 (f 45)) 13 (f 46)) 14 (f 47)) 15 (f 48)) 5 (f 5)) 10 (f 10)) rfl e0.symm dX7_hear_164
            · skip
              refine lv_aload_n hx hb dX7_hear_152 rfl (lv_at hl26 2 rfl) ?_
              refine lv_iload_n hx hb dX7_hear_153 rfl (lv_at hl26 3 rfl) ?_
              refine lv_bipush (v := 6) hx hb dX7_hear_154 (by decide) ?_
              refine lv_iadd hx hb dX7_hear_156 ?_
              refine k_top (y := 6) (by decide +kernel) ?_
              refine lv_iconst (v := 0) hx hb dX7_hear_157 (by decide) ?_
              refine k_iast kx hK hP31 hD32 hS30 0 rfl 6 rfl (by decide) (by decide) dX7_hear_158 (fun H33 locs33 hP33 hD33 hS33 => ?_)
              have hP34 : va_P G.1 vwCl ([(h0, .inl (G.2.1, 55, .inl (upd (upd (upd (upd (upd (upd (upd (upd (upd f 8 0) 11 (f 44)) 12 (f 45)) 13 (f 46)) 14 (f 47)) 15 (f 48)) 5 (f 5)) 10 (f 10)) 6 0)))]) H33 := hP33
              have hD35 : va_D A ([(h0, .inl (G.2.1, 55, .inl (upd (upd (upd (upd (upd (upd (upd (upd (upd f 8 0) 11 (f 44)) 12 (f 45)) 13 (f 46)) 14 (f 47)) 15 (f 48)) 5 (f 5)) 10 (f 10)) 6 0)))]) := hD33
              refine lv_aload_n hx hb dX7_hear_159 rfl (lv_at hl26 2 rfl) ?_
              refine lv_iload_n hx hb dX7_hear_160 rfl (lv_at hl26 3 rfl) ?_
              refine k_callv (kRunS (As := [.ref h0, .int 0]) (rest := []) kx (c_X7_useTold_0 l G (upd (upd (upd (upd (upd (upd (upd (upd (upd f 8 0) 11 (f 44)) 12 (f 45)) 13 (f 46)) 14 (f 47)) 15 (f 48)) 5 (f 5)) 10 (f 10)) 6 0) h0) q_759 q_757 q_36 q_758 nX7_useTold ⟨Nat.le_of_ble_eq_true rfl, Nat.le_of_ble_eq_true rfl⟩ hK hP34 hD35 (kCtx_all _) rfl hl26.1 (Nat.le_of_ble_eq_true rfl) dX7_hear_161 ⟨Nat.zero_le _, Nat.zero_le _⟩) hP34 hD35 hS33 hA (kCtx_all _) (fun _ => rfl) (fun _ H36 locs36 hw hP36 hD36 hS36 => ?_)
              have hP37 : va_P G.1 vwCl ([(h0, .inl (G.2.1, 55, .inl (upd (upd (upd (upd (upd (upd (upd (upd (upd (upd (upd f 8 0) 11 (f 44)) 12 (f 45)) 13 (f 46)) 14 (f 47)) 15 (f 48)) 5 (f 5)) 10 (f 10)) 6 0) 3 (f 0)) 4 (f 1))))]) H36 := hP36
              have hD38 : va_D A ([(h0, .inl (G.2.1, 55, .inl (upd (upd (upd (upd (upd (upd (upd (upd (upd (upd (upd f 8 0) 11 (f 44)) 12 (f 45)) 13 (f 46)) 14 (f 47)) 15 (f 48)) 5 (f 5)) 10 (f 10)) 6 0) 3 (f 0)) 4 (f 1))))]) := hD36
              have e0 : s_X7_hear_0_f f = upd (upd (upd (upd (upd (upd (upd (upd (upd (upd (upd f 8 0) 11 (f 44)) 12 (f 45)) 13 (f 46)) 14 (f 47)) 15 (f 48)) 5 (f 5)) 10 (f 10)) 6 0) 3 (f 0)) 4 (f 1) := by rw [s_X7_hear_0_f, if_neg c7, if_neg c8, if_neg c9, if_neg c10, if_pos c11, if_pos c12]
              exact k_vret kx hK hP37 hD38 hS36 (u := upd (upd (upd (upd (upd (upd (upd (upd (upd (upd (upd f 8 0) 11 (f 44)) 12 (f 45)) 13 (f 46)) 14 (f 47)) 15 (f 48)) 5 (f 5)) 10 (f 10)) 6 0) 3 (f 0)) 4 (f 1)) rfl e0.symm dX7_hear_164
        · skip
          refine lv_iconst (v := 1) hx hb dX7_hear_121 (by decide) ?_
          refine lv_goto (tgt := 131) hx hb dX7_hear_122 (by decide) ?_
          refine k_iast kx hK hP28 hD29 hS27 0 rfl 10 rfl (by decide) (by decide) dX7_hear_131 (fun H39 locs39 hP39 hD39 hS39 => ?_)
          have hP40 : va_P G.1 vwCl ([(h0, .inl (G.2.1, 55, .inl (upd (upd (upd (upd (upd (upd (upd (upd f 8 0) 11 (f 44)) 12 (f 45)) 13 (f 46)) 14 (f 47)) 15 (f 48)) 5 (f 5)) 10 1)))]) H39 := hP39
          have hD41 : va_D A ([(h0, .inl (G.2.1, 55, .inl (upd (upd (upd (upd (upd (upd (upd (upd f 8 0) 11 (f 44)) 12 (f 45)) 13 (f 46)) 14 (f 47)) 15 (f 48)) 5 (f 5)) 10 1)))]) := hD39
          refine lv_aload_n hx hb dX7_hear_132 rfl (lv_at hl26 2 rfl) ?_
          refine lv_iload_n hx hb dX7_hear_133 rfl (lv_at hl26 4 rfl) ?_
          refine lv_bipush (v := 7) hx hb dX7_hear_134 (by decide) ?_
          refine lv_iadd hx hb dX7_hear_136 ?_
          refine k_top (y := 50) (by decide +kernel) ?_
          refine k_iald (v := (f 50)) kx hK hP40 0 rfl 50 rfl (by decide) (by decide) rfl dX7_hear_137 ?_
          refine lv_iconst (v := 1) hx hb dX7_hear_138 (by decide) ?_
          refine lv_icmp_ne (x := f 50) (y := 1) (tgt := 164) hx hb dX7_hear_139 (by decide) (fun (c14 : ¬ (f 50 = 1)) => ?_) (fun (c14 : f 50 = 1) => ?_)
          · skip
            have e0 : s_X7_hear_0_f f = upd (upd (upd (upd (upd (upd (upd (upd f 8 0) 11 (f 44)) 12 (f 45)) 13 (f 46)) 14 (f 47)) 15 (f 48)) 5 (f 5)) 10 1 := by rw [s_X7_hear_0_f, if_neg c7, if_neg c8, if_neg c9, if_pos c10, if_neg c14]
            exact k_vret kx hK hP40 hD41 hS39 (u := upd (upd (upd (upd (upd (upd (upd (upd f 8 0) 11 (f 44)) 12 (f 45)) 13 (f 46)) 14 (f 47)) 15 (f 48)) 5 (f 5)) 10 1) rfl e0.symm dX7_hear_164
          · skip
            refine lv_aload_n hx hb dX7_hear_142 rfl (lv_at hl26 2 rfl) ?_
            refine lv_iload_n hx hb dX7_hear_143 rfl (lv_at hl26 3 rfl) ?_
            refine lv_bipush (v := 6) hx hb dX7_hear_144 (by decide) ?_
            refine lv_iadd hx hb dX7_hear_146 ?_
            refine k_top (y := 6) (by decide +kernel) ?_
            refine k_iald (v := (f 6)) kx hK hP40 0 rfl 6 rfl (by decide) (by decide) rfl dX7_hear_147 ?_
            refine lv_iconst (v := 1) hx hb dX7_hear_148 (by decide) ?_
            refine lv_icmp_ne (x := f 6) (y := 1) (tgt := 164) hx hb dX7_hear_149 (by decide) (fun (c15 : ¬ (f 6 = 1)) => ?_) (fun (c15 : f 6 = 1) => ?_)
            · skip
              have e0 : s_X7_hear_0_f f = upd (upd (upd (upd (upd (upd (upd (upd f 8 0) 11 (f 44)) 12 (f 45)) 13 (f 46)) 14 (f 47)) 15 (f 48)) 5 (f 5)) 10 1 := by rw [s_X7_hear_0_f, if_neg c7, if_neg c8, if_neg c9, if_pos c10, if_pos c14, if_neg c15]
              exact k_vret kx hK hP40 hD41 hS39 (u := upd (upd (upd (upd (upd (upd (upd (upd f 8 0) 11 (f 44)) 12 (f 45)) 13 (f 46)) 14 (f 47)) 15 (f 48)) 5 (f 5)) 10 1) rfl e0.symm dX7_hear_164
            · skip
              refine lv_aload_n hx hb dX7_hear_152 rfl (lv_at hl26 2 rfl) ?_
              refine lv_iload_n hx hb dX7_hear_153 rfl (lv_at hl26 3 rfl) ?_
              refine lv_bipush (v := 6) hx hb dX7_hear_154 (by decide) ?_
              refine lv_iadd hx hb dX7_hear_156 ?_
              refine k_top (y := 6) (by decide +kernel) ?_
              refine lv_iconst (v := 0) hx hb dX7_hear_157 (by decide) ?_
              refine k_iast kx hK hP40 hD41 hS39 0 rfl 6 rfl (by decide) (by decide) dX7_hear_158 (fun H42 locs42 hP42 hD42 hS42 => ?_)
              have hP43 : va_P G.1 vwCl ([(h0, .inl (G.2.1, 55, .inl (upd (upd (upd (upd (upd (upd (upd (upd (upd f 8 0) 11 (f 44)) 12 (f 45)) 13 (f 46)) 14 (f 47)) 15 (f 48)) 5 (f 5)) 10 1) 6 0)))]) H42 := hP42
              have hD44 : va_D A ([(h0, .inl (G.2.1, 55, .inl (upd (upd (upd (upd (upd (upd (upd (upd (upd f 8 0) 11 (f 44)) 12 (f 45)) 13 (f 46)) 14 (f 47)) 15 (f 48)) 5 (f 5)) 10 1) 6 0)))]) := hD42
              refine lv_aload_n hx hb dX7_hear_159 rfl (lv_at hl26 2 rfl) ?_
              refine lv_iload_n hx hb dX7_hear_160 rfl (lv_at hl26 3 rfl) ?_
              refine k_callv (kRunS (As := [.ref h0, .int 0]) (rest := []) kx (c_X7_useTold_0 l G (upd (upd (upd (upd (upd (upd (upd (upd (upd f 8 0) 11 (f 44)) 12 (f 45)) 13 (f 46)) 14 (f 47)) 15 (f 48)) 5 (f 5)) 10 1) 6 0) h0) q_759 q_757 q_36 q_758 nX7_useTold ⟨Nat.le_of_ble_eq_true rfl, Nat.le_of_ble_eq_true rfl⟩ hK hP43 hD44 (kCtx_all _) rfl hl26.1 (Nat.le_of_ble_eq_true rfl) dX7_hear_161 ⟨Nat.zero_le _, Nat.zero_le _⟩) hP43 hD44 hS42 hA (kCtx_all _) (fun _ => rfl) (fun _ H45 locs45 hw hP45 hD45 hS45 => ?_)
              have hP46 : va_P G.1 vwCl ([(h0, .inl (G.2.1, 55, .inl (upd (upd (upd (upd (upd (upd (upd (upd (upd (upd (upd f 8 0) 11 (f 44)) 12 (f 45)) 13 (f 46)) 14 (f 47)) 15 (f 48)) 5 (f 5)) 10 1) 6 0) 3 (f 0)) 4 (f 1))))]) H45 := hP45
              have hD47 : va_D A ([(h0, .inl (G.2.1, 55, .inl (upd (upd (upd (upd (upd (upd (upd (upd (upd (upd (upd f 8 0) 11 (f 44)) 12 (f 45)) 13 (f 46)) 14 (f 47)) 15 (f 48)) 5 (f 5)) 10 1) 6 0) 3 (f 0)) 4 (f 1))))]) := hD45
              have e0 : s_X7_hear_0_f f = upd (upd (upd (upd (upd (upd (upd (upd (upd (upd (upd f 8 0) 11 (f 44)) 12 (f 45)) 13 (f 46)) 14 (f 47)) 15 (f 48)) 5 (f 5)) 10 1) 6 0) 3 (f 0)) 4 (f 1) := by rw [s_X7_hear_0_f, if_neg c7, if_neg c8, if_neg c9, if_pos c10, if_pos c14, if_pos c15]
              exact k_vret kx hK hP46 hD47 hS45 (u := upd (upd (upd (upd (upd (upd (upd (upd (upd (upd (upd f 8 0) 11 (f 44)) 12 (f 45)) 13 (f 46)) 14 (f 47)) 15 (f 48)) 5 (f 5)) 10 1) 6 0) 3 (f 0)) 4 (f 1)) rfl e0.symm dX7_hear_164
      · skip
        refine lv_iconst (v := 2) hx hb dX7_hear_99 (by decide) ?_
        refine lv_goto (tgt := 105) hx hb dX7_hear_100 (by decide) ?_
        refine k_iast kx hK hP22 hD23 hS21 0 rfl 5 rfl (by decide) (by decide) dX7_hear_105 (fun H48 locs48 hP48 hD48 hS48 => ?_)
        have hP49 : va_P G.1 vwCl ([(h0, .inl (G.2.1, 55, .inl (upd (upd (upd (upd (upd (upd (upd f 8 0) 11 (f 44)) 12 (f 45)) 13 (f 46)) 14 (f 47)) 15 (f 48)) 5 2)))]) H48 := hP48
        have hD50 : va_D A ([(h0, .inl (G.2.1, 55, .inl (upd (upd (upd (upd (upd (upd (upd f 8 0) 11 (f 44)) 12 (f 45)) 13 (f 46)) 14 (f 47)) 15 (f 48)) 5 2)))]) := hD48
        refine lv_aload_n hx hb dX7_hear_106 rfl (lv_at hl26 2 rfl) ?_
        refine lv_iload_n hx hb dX7_hear_107 rfl (lv_at hl26 3 rfl) ?_
        refine lv_bipush (v := 10) hx hb dX7_hear_108 (by decide) ?_
        refine lv_iadd hx hb dX7_hear_110 ?_
        refine k_top (y := 10) (by decide +kernel) ?_
        refine lv_aload_n hx hb dX7_hear_111 rfl (lv_at hl26 2 rfl) ?_
        refine lv_iload_n hx hb dX7_hear_112 rfl (lv_at hl26 4 rfl) ?_
        refine lv_bipush (v := 6) hx hb dX7_hear_113 (by decide) ?_
        refine lv_iadd hx hb dX7_hear_115 ?_
        refine k_top (y := 49) (by decide +kernel) ?_
        refine k_iald (v := (f 49)) kx hK hP49 0 rfl 49 rfl (by decide) (by decide) rfl dX7_hear_116 ?_
        refine lv_iconst (v := 1) hx hb dX7_hear_117 (by decide) ?_
        refine lv_icmp_ne (x := f 49) (y := 1) (tgt := 125) hx hb dX7_hear_118 (by decide) (fun (c17 : ¬ (f 49 = 1)) => ?_) (fun (c17 : f 49 = 1) => ?_)
        · skip
          refine lv_aload_n hx hb dX7_hear_125 rfl (lv_at hl26 2 rfl) ?_
          refine lv_iload_n hx hb dX7_hear_126 rfl (lv_at hl26 3 rfl) ?_
          refine lv_bipush (v := 10) hx hb dX7_hear_127 (by decide) ?_
          refine lv_iadd hx hb dX7_hear_129 ?_
          refine k_top (y := 10) (by decide +kernel) ?_
          refine k_iald (v := (f 10)) kx hK hP49 0 rfl 10 rfl (by decide) (by decide) rfl dX7_hear_130 ?_
          refine k_iast kx hK hP49 hD50 hS48 0 rfl 10 rfl (by decide) (by decide) dX7_hear_131 (fun H51 locs51 hP51 hD51 hS51 => ?_)
          have hP52 : va_P G.1 vwCl ([(h0, .inl (G.2.1, 55, .inl (upd (upd (upd (upd (upd (upd (upd (upd f 8 0) 11 (f 44)) 12 (f 45)) 13 (f 46)) 14 (f 47)) 15 (f 48)) 5 2) 10 (f 10))))]) H51 := hP51
          have hD53 : va_D A ([(h0, .inl (G.2.1, 55, .inl (upd (upd (upd (upd (upd (upd (upd (upd f 8 0) 11 (f 44)) 12 (f 45)) 13 (f 46)) 14 (f 47)) 15 (f 48)) 5 2) 10 (f 10))))]) := hD51
          refine lv_aload_n hx hb dX7_hear_132 rfl (lv_at hl26 2 rfl) ?_
          refine lv_iload_n hx hb dX7_hear_133 rfl (lv_at hl26 4 rfl) ?_
          refine lv_bipush (v := 7) hx hb dX7_hear_134 (by decide) ?_
          refine lv_iadd hx hb dX7_hear_136 ?_
          refine k_top (y := 50) (by decide +kernel) ?_
          refine k_iald (v := (f 50)) kx hK hP52 0 rfl 50 rfl (by decide) (by decide) rfl dX7_hear_137 ?_
          refine lv_iconst (v := 1) hx hb dX7_hear_138 (by decide) ?_
          refine lv_icmp_ne (x := f 50) (y := 1) (tgt := 164) hx hb dX7_hear_139 (by decide) (fun (c18 : ¬ (f 50 = 1)) => ?_) (fun (c18 : f 50 = 1) => ?_)
          · skip
            have e0 : s_X7_hear_0_f f = upd (upd (upd (upd (upd (upd (upd (upd f 8 0) 11 (f 44)) 12 (f 45)) 13 (f 46)) 14 (f 47)) 15 (f 48)) 5 2) 10 (f 10) := by rw [s_X7_hear_0_f, if_neg c7, if_neg c8, if_pos c9, if_neg c17, if_neg c18]
            exact k_vret kx hK hP52 hD53 hS51 (u := upd (upd (upd (upd (upd (upd (upd (upd f 8 0) 11 (f 44)) 12 (f 45)) 13 (f 46)) 14 (f 47)) 15 (f 48)) 5 2) 10 (f 10)) rfl e0.symm dX7_hear_164
          · skip
            refine lv_aload_n hx hb dX7_hear_142 rfl (lv_at hl26 2 rfl) ?_
            refine lv_iload_n hx hb dX7_hear_143 rfl (lv_at hl26 3 rfl) ?_
            refine lv_bipush (v := 6) hx hb dX7_hear_144 (by decide) ?_
            refine lv_iadd hx hb dX7_hear_146 ?_
            refine k_top (y := 6) (by decide +kernel) ?_
            refine k_iald (v := (f 6)) kx hK hP52 0 rfl 6 rfl (by decide) (by decide) rfl dX7_hear_147 ?_
            refine lv_iconst (v := 1) hx hb dX7_hear_148 (by decide) ?_
            refine lv_icmp_ne (x := f 6) (y := 1) (tgt := 164) hx hb dX7_hear_149 (by decide) (fun (c19 : ¬ (f 6 = 1)) => ?_) (fun (c19 : f 6 = 1) => ?_)
            · skip
              have e0 : s_X7_hear_0_f f = upd (upd (upd (upd (upd (upd (upd (upd f 8 0) 11 (f 44)) 12 (f 45)) 13 (f 46)) 14 (f 47)) 15 (f 48)) 5 2) 10 (f 10) := by rw [s_X7_hear_0_f, if_neg c7, if_neg c8, if_pos c9, if_neg c17, if_pos c18, if_neg c19]
              exact k_vret kx hK hP52 hD53 hS51 (u := upd (upd (upd (upd (upd (upd (upd (upd f 8 0) 11 (f 44)) 12 (f 45)) 13 (f 46)) 14 (f 47)) 15 (f 48)) 5 2) 10 (f 10)) rfl e0.symm dX7_hear_164
            · skip
              refine lv_aload_n hx hb dX7_hear_152 rfl (lv_at hl26 2 rfl) ?_
              refine lv_iload_n hx hb dX7_hear_153 rfl (lv_at hl26 3 rfl) ?_
              refine lv_bipush (v := 6) hx hb dX7_hear_154 (by decide) ?_
              refine lv_iadd hx hb dX7_hear_156 ?_
              refine k_top (y := 6) (by decide +kernel) ?_
              refine lv_iconst (v := 0) hx hb dX7_hear_157 (by decide) ?_
              refine k_iast kx hK hP52 hD53 hS51 0 rfl 6 rfl (by decide) (by decide) dX7_hear_158 (fun H54 locs54 hP54 hD54 hS54 => ?_)
              have hP55 : va_P G.1 vwCl ([(h0, .inl (G.2.1, 55, .inl (upd (upd (upd (upd (upd (upd (upd (upd (upd f 8 0) 11 (f 44)) 12 (f 45)) 13 (f 46)) 14 (f 47)) 15 (f 48)) 5 2) 10 (f 10)) 6 0)))]) H54 := hP54
              have hD56 : va_D A ([(h0, .inl (G.2.1, 55, .inl (upd (upd (upd (upd (upd (upd (upd (upd (upd f 8 0) 11 (f 44)) 12 (f 45)) 13 (f 46)) 14 (f 47)) 15 (f 48)) 5 2) 10 (f 10)) 6 0)))]) := hD54
              refine lv_aload_n hx hb dX7_hear_159 rfl (lv_at hl26 2 rfl) ?_
              refine lv_iload_n hx hb dX7_hear_160 rfl (lv_at hl26 3 rfl) ?_
              refine k_callv (kRunS (As := [.ref h0, .int 0]) (rest := []) kx (c_X7_useTold_0 l G (upd (upd (upd (upd (upd (upd (upd (upd (upd f 8 0) 11 (f 44)) 12 (f 45)) 13 (f 46)) 14 (f 47)) 15 (f 48)) 5 2) 10 (f 10)) 6 0) h0) q_759 q_757 q_36 q_758 nX7_useTold ⟨Nat.le_of_ble_eq_true rfl, Nat.le_of_ble_eq_true rfl⟩ hK hP55 hD56 (kCtx_all _) rfl hl26.1 (Nat.le_of_ble_eq_true rfl) dX7_hear_161 ⟨Nat.zero_le _, Nat.zero_le _⟩) hP55 hD56 hS54 hA (kCtx_all _) (fun _ => rfl) (fun _ H57 locs57 hw hP57 hD57 hS57 => ?_)
              have hP58 : va_P G.1 vwCl ([(h0, .inl (G.2.1, 55, .inl (upd (upd (upd (upd (upd (upd (upd (upd (upd (upd (upd f 8 0) 11 (f 44)) 12 (f 45)) 13 (f 46)) 14 (f 47)) 15 (f 48)) 5 2) 10 (f 10)) 6 0) 3 (f 0)) 4 (f 1))))]) H57 := hP57
              have hD59 : va_D A ([(h0, .inl (G.2.1, 55, .inl (upd (upd (upd (upd (upd (upd (upd (upd (upd (upd (upd f 8 0) 11 (f 44)) 12 (f 45)) 13 (f 46)) 14 (f 47)) 15 (f 48)) 5 2) 10 (f 10)) 6 0) 3 (f 0)) 4 (f 1))))]) := hD57
              have e0 : s_X7_hear_0_f f = upd (upd (upd (upd (upd (upd (upd (upd (upd (upd (upd f 8 0) 11 (f 44)) 12 (f 45)) 13 (f 46)) 14 (f 47)) 15 (f 48)) 5 2) 10 (f 10)) 6 0) 3 (f 0)) 4 (f 1) := by rw [s_X7_hear_0_f, if_neg c7, if_neg c8, if_pos c9, if_neg c17, if_pos c18, if_pos c19]
              exact k_vret kx hK hP58 hD59 hS57 (u := upd (upd (upd (upd (upd (upd (upd (upd (upd (upd (upd f 8 0) 11 (f 44)) 12 (f 45)) 13 (f 46)) 14 (f 47)) 15 (f 48)) 5 2) 10 (f 10)) 6 0) 3 (f 0)) 4 (f 1)) rfl e0.symm dX7_hear_164
        · skip
          refine lv_iconst (v := 1) hx hb dX7_hear_121 (by decide) ?_
          refine lv_goto (tgt := 131) hx hb dX7_hear_122 (by decide) ?_
          refine k_iast kx hK hP49 hD50 hS48 0 rfl 10 rfl (by decide) (by decide) dX7_hear_131 (fun H60 locs60 hP60 hD60 hS60 => ?_)
          have hP61 : va_P G.1 vwCl ([(h0, .inl (G.2.1, 55, .inl (upd (upd (upd (upd (upd (upd (upd (upd f 8 0) 11 (f 44)) 12 (f 45)) 13 (f 46)) 14 (f 47)) 15 (f 48)) 5 2) 10 1)))]) H60 := hP60
          have hD62 : va_D A ([(h0, .inl (G.2.1, 55, .inl (upd (upd (upd (upd (upd (upd (upd (upd f 8 0) 11 (f 44)) 12 (f 45)) 13 (f 46)) 14 (f 47)) 15 (f 48)) 5 2) 10 1)))]) := hD60
          refine lv_aload_n hx hb dX7_hear_132 rfl (lv_at hl26 2 rfl) ?_
          refine lv_iload_n hx hb dX7_hear_133 rfl (lv_at hl26 4 rfl) ?_
          refine lv_bipush (v := 7) hx hb dX7_hear_134 (by decide) ?_
          refine lv_iadd hx hb dX7_hear_136 ?_
          refine k_top (y := 50) (by decide +kernel) ?_
          refine k_iald (v := (f 50)) kx hK hP61 0 rfl 50 rfl (by decide) (by decide) rfl dX7_hear_137 ?_
          refine lv_iconst (v := 1) hx hb dX7_hear_138 (by decide) ?_
          refine lv_icmp_ne (x := f 50) (y := 1) (tgt := 164) hx hb dX7_hear_139 (by decide) (fun (c21 : ¬ (f 50 = 1)) => ?_) (fun (c21 : f 50 = 1) => ?_)
          · skip
            have e0 : s_X7_hear_0_f f = upd (upd (upd (upd (upd (upd (upd (upd f 8 0) 11 (f 44)) 12 (f 45)) 13 (f 46)) 14 (f 47)) 15 (f 48)) 5 2) 10 1 := by rw [s_X7_hear_0_f, if_neg c7, if_neg c8, if_pos c9, if_pos c17, if_neg c21]
            exact k_vret kx hK hP61 hD62 hS60 (u := upd (upd (upd (upd (upd (upd (upd (upd f 8 0) 11 (f 44)) 12 (f 45)) 13 (f 46)) 14 (f 47)) 15 (f 48)) 5 2) 10 1) rfl e0.symm dX7_hear_164
          · skip
            refine lv_aload_n hx hb dX7_hear_142 rfl (lv_at hl26 2 rfl) ?_
            refine lv_iload_n hx hb dX7_hear_143 rfl (lv_at hl26 3 rfl) ?_
            refine lv_bipush (v := 6) hx hb dX7_hear_144 (by decide) ?_
            refine lv_iadd hx hb dX7_hear_146 ?_
            refine k_top (y := 6) (by decide +kernel) ?_
            refine k_iald (v := (f 6)) kx hK hP61 0 rfl 6 rfl (by decide) (by decide) rfl dX7_hear_147 ?_
            refine lv_iconst (v := 1) hx hb dX7_hear_148 (by decide) ?_
            refine lv_icmp_ne (x := f 6) (y := 1) (tgt := 164) hx hb dX7_hear_149 (by decide) (fun (c22 : ¬ (f 6 = 1)) => ?_) (fun (c22 : f 6 = 1) => ?_)
            · skip
              have e0 : s_X7_hear_0_f f = upd (upd (upd (upd (upd (upd (upd (upd f 8 0) 11 (f 44)) 12 (f 45)) 13 (f 46)) 14 (f 47)) 15 (f 48)) 5 2) 10 1 := by rw [s_X7_hear_0_f, if_neg c7, if_neg c8, if_pos c9, if_pos c17, if_pos c21, if_neg c22]
              exact k_vret kx hK hP61 hD62 hS60 (u := upd (upd (upd (upd (upd (upd (upd (upd f 8 0) 11 (f 44)) 12 (f 45)) 13 (f 46)) 14 (f 47)) 15 (f 48)) 5 2) 10 1) rfl e0.symm dX7_hear_164
            · skip
              refine lv_aload_n hx hb dX7_hear_152 rfl (lv_at hl26 2 rfl) ?_
              refine lv_iload_n hx hb dX7_hear_153 rfl (lv_at hl26 3 rfl) ?_
              refine lv_bipush (v := 6) hx hb dX7_hear_154 (by decide) ?_
              refine lv_iadd hx hb dX7_hear_156 ?_
              refine k_top (y := 6) (by decide +kernel) ?_
              refine lv_iconst (v := 0) hx hb dX7_hear_157 (by decide) ?_
              refine k_iast kx hK hP61 hD62 hS60 0 rfl 6 rfl (by decide) (by decide) dX7_hear_158 (fun H63 locs63 hP63 hD63 hS63 => ?_)
              have hP64 : va_P G.1 vwCl ([(h0, .inl (G.2.1, 55, .inl (upd (upd (upd (upd (upd (upd (upd (upd (upd f 8 0) 11 (f 44)) 12 (f 45)) 13 (f 46)) 14 (f 47)) 15 (f 48)) 5 2) 10 1) 6 0)))]) H63 := hP63
              have hD65 : va_D A ([(h0, .inl (G.2.1, 55, .inl (upd (upd (upd (upd (upd (upd (upd (upd (upd f 8 0) 11 (f 44)) 12 (f 45)) 13 (f 46)) 14 (f 47)) 15 (f 48)) 5 2) 10 1) 6 0)))]) := hD63
              refine lv_aload_n hx hb dX7_hear_159 rfl (lv_at hl26 2 rfl) ?_
              refine lv_iload_n hx hb dX7_hear_160 rfl (lv_at hl26 3 rfl) ?_
              refine k_callv (kRunS (As := [.ref h0, .int 0]) (rest := []) kx (c_X7_useTold_0 l G (upd (upd (upd (upd (upd (upd (upd (upd (upd f 8 0) 11 (f 44)) 12 (f 45)) 13 (f 46)) 14 (f 47)) 15 (f 48)) 5 2) 10 1) 6 0) h0) q_759 q_757 q_36 q_758 nX7_useTold ⟨Nat.le_of_ble_eq_true rfl, Nat.le_of_ble_eq_true rfl⟩ hK hP64 hD65 (kCtx_all _) rfl hl26.1 (Nat.le_of_ble_eq_true rfl) dX7_hear_161 ⟨Nat.zero_le _, Nat.zero_le _⟩) hP64 hD65 hS63 hA (kCtx_all _) (fun _ => rfl) (fun _ H66 locs66 hw hP66 hD66 hS66 => ?_)
              have hP67 : va_P G.1 vwCl ([(h0, .inl (G.2.1, 55, .inl (upd (upd (upd (upd (upd (upd (upd (upd (upd (upd (upd f 8 0) 11 (f 44)) 12 (f 45)) 13 (f 46)) 14 (f 47)) 15 (f 48)) 5 2) 10 1) 6 0) 3 (f 0)) 4 (f 1))))]) H66 := hP66
              have hD68 : va_D A ([(h0, .inl (G.2.1, 55, .inl (upd (upd (upd (upd (upd (upd (upd (upd (upd (upd (upd f 8 0) 11 (f 44)) 12 (f 45)) 13 (f 46)) 14 (f 47)) 15 (f 48)) 5 2) 10 1) 6 0) 3 (f 0)) 4 (f 1))))]) := hD66
              have e0 : s_X7_hear_0_f f = upd (upd (upd (upd (upd (upd (upd (upd (upd (upd (upd f 8 0) 11 (f 44)) 12 (f 45)) 13 (f 46)) 14 (f 47)) 15 (f 48)) 5 2) 10 1) 6 0) 3 (f 0)) 4 (f 1) := by rw [s_X7_hear_0_f, if_neg c7, if_neg c8, if_pos c9, if_pos c17, if_pos c21, if_pos c22]
              exact k_vret kx hK hP67 hD68 hS66 (u := upd (upd (upd (upd (upd (upd (upd (upd (upd (upd (upd f 8 0) 11 (f 44)) 12 (f 45)) 13 (f 46)) 14 (f 47)) 15 (f 48)) 5 2) 10 1) 6 0) 3 (f 0)) 4 (f 1)) rfl e0.symm dX7_hear_164
    · skip
      refine lv_aload_n hx hb dX7_hear_80 rfl (lv_at hl26 2 rfl) ?_
      refine lv_iload_n hx hb dX7_hear_81 rfl (lv_at hl26 3 rfl) ?_
      refine lv_iconst (v := 5) hx hb dX7_hear_82 (by decide) ?_
      refine lv_iadd hx hb dX7_hear_83 ?_
      refine k_top (y := 5) (by decide +kernel) ?_
      refine lv_iconst (v := 2) hx hb dX7_hear_84 (by decide) ?_
      refine k_iast kx hK hP22 hD23 hS21 0 rfl 5 rfl (by decide) (by decide) dX7_hear_85 (fun H69 locs69 hP69 hD69 hS69 => ?_)
      have hP70 : va_P G.1 vwCl ([(h0, .inl (G.2.1, 55, .inl (upd (upd (upd (upd (upd (upd (upd f 8 0) 11 (f 44)) 12 (f 45)) 13 (f 46)) 14 (f 47)) 15 (f 48)) 5 2)))]) H69 := hP69
      have hD71 : va_D A ([(h0, .inl (G.2.1, 55, .inl (upd (upd (upd (upd (upd (upd (upd f 8 0) 11 (f 44)) 12 (f 45)) 13 (f 46)) 14 (f 47)) 15 (f 48)) 5 2)))]) := hD69
      refine lv_goto (tgt := 106) hx hb dX7_hear_86 (by decide) ?_
      refine lv_aload_n hx hb dX7_hear_106 rfl (lv_at hl26 2 rfl) ?_
      refine lv_iload_n hx hb dX7_hear_107 rfl (lv_at hl26 3 rfl) ?_
      refine lv_bipush (v := 10) hx hb dX7_hear_108 (by decide) ?_
      refine lv_iadd hx hb dX7_hear_110 ?_
      refine k_top (y := 10) (by decide +kernel) ?_
      refine lv_aload_n hx hb dX7_hear_111 rfl (lv_at hl26 2 rfl) ?_
      refine lv_iload_n hx hb dX7_hear_112 rfl (lv_at hl26 4 rfl) ?_
      refine lv_bipush (v := 6) hx hb dX7_hear_113 (by decide) ?_
      refine lv_iadd hx hb dX7_hear_115 ?_
      refine k_top (y := 49) (by decide +kernel) ?_
      refine k_iald (v := (f 49)) kx hK hP70 0 rfl 49 rfl (by decide) (by decide) rfl dX7_hear_116 ?_
      refine lv_iconst (v := 1) hx hb dX7_hear_117 (by decide) ?_
      refine lv_icmp_ne (x := f 49) (y := 1) (tgt := 125) hx hb dX7_hear_118 (by decide) (fun (c24 : ¬ (f 49 = 1)) => ?_) (fun (c24 : f 49 = 1) => ?_)
      · skip
        refine lv_aload_n hx hb dX7_hear_125 rfl (lv_at hl26 2 rfl) ?_
        refine lv_iload_n hx hb dX7_hear_126 rfl (lv_at hl26 3 rfl) ?_
        refine lv_bipush (v := 10) hx hb dX7_hear_127 (by decide) ?_
        refine lv_iadd hx hb dX7_hear_129 ?_
        refine k_top (y := 10) (by decide +kernel) ?_
        refine k_iald (v := (f 10)) kx hK hP70 0 rfl 10 rfl (by decide) (by decide) rfl dX7_hear_130 ?_
        refine k_iast kx hK hP70 hD71 hS69 0 rfl 10 rfl (by decide) (by decide) dX7_hear_131 (fun H72 locs72 hP72 hD72 hS72 => ?_)
        have hP73 : va_P G.1 vwCl ([(h0, .inl (G.2.1, 55, .inl (upd (upd (upd (upd (upd (upd (upd (upd f 8 0) 11 (f 44)) 12 (f 45)) 13 (f 46)) 14 (f 47)) 15 (f 48)) 5 2) 10 (f 10))))]) H72 := hP72
        have hD74 : va_D A ([(h0, .inl (G.2.1, 55, .inl (upd (upd (upd (upd (upd (upd (upd (upd f 8 0) 11 (f 44)) 12 (f 45)) 13 (f 46)) 14 (f 47)) 15 (f 48)) 5 2) 10 (f 10))))]) := hD72
        refine lv_aload_n hx hb dX7_hear_132 rfl (lv_at hl26 2 rfl) ?_
        refine lv_iload_n hx hb dX7_hear_133 rfl (lv_at hl26 4 rfl) ?_
        refine lv_bipush (v := 7) hx hb dX7_hear_134 (by decide) ?_
        refine lv_iadd hx hb dX7_hear_136 ?_
        refine k_top (y := 50) (by decide +kernel) ?_
        refine k_iald (v := (f 50)) kx hK hP73 0 rfl 50 rfl (by decide) (by decide) rfl dX7_hear_137 ?_
        refine lv_iconst (v := 1) hx hb dX7_hear_138 (by decide) ?_
        refine lv_icmp_ne (x := f 50) (y := 1) (tgt := 164) hx hb dX7_hear_139 (by decide) (fun (c25 : ¬ (f 50 = 1)) => ?_) (fun (c25 : f 50 = 1) => ?_)
        · skip
          have e0 : s_X7_hear_0_f f = upd (upd (upd (upd (upd (upd (upd (upd f 8 0) 11 (f 44)) 12 (f 45)) 13 (f 46)) 14 (f 47)) 15 (f 48)) 5 2) 10 (f 10) := by rw [s_X7_hear_0_f, if_neg c7, if_pos c8, if_neg c24, if_neg c25]
          exact k_vret kx hK hP73 hD74 hS72 (u := upd (upd (upd (upd (upd (upd (upd (upd f 8 0) 11 (f 44)) 12 (f 45)) 13 (f 46)) 14 (f 47)) 15 (f 48)) 5 2) 10 (f 10)) rfl e0.symm dX7_hear_164
        · skip
          refine lv_aload_n hx hb dX7_hear_142 rfl (lv_at hl26 2 rfl) ?_
          refine lv_iload_n hx hb dX7_hear_143 rfl (lv_at hl26 3 rfl) ?_
          refine lv_bipush (v := 6) hx hb dX7_hear_144 (by decide) ?_
          refine lv_iadd hx hb dX7_hear_146 ?_
          refine k_top (y := 6) (by decide +kernel) ?_
          refine k_iald (v := (f 6)) kx hK hP73 0 rfl 6 rfl (by decide) (by decide) rfl dX7_hear_147 ?_
          refine lv_iconst (v := 1) hx hb dX7_hear_148 (by decide) ?_
          refine lv_icmp_ne (x := f 6) (y := 1) (tgt := 164) hx hb dX7_hear_149 (by decide) (fun (c26 : ¬ (f 6 = 1)) => ?_) (fun (c26 : f 6 = 1) => ?_)
          · skip
            have e0 : s_X7_hear_0_f f = upd (upd (upd (upd (upd (upd (upd (upd f 8 0) 11 (f 44)) 12 (f 45)) 13 (f 46)) 14 (f 47)) 15 (f 48)) 5 2) 10 (f 10) := by rw [s_X7_hear_0_f, if_neg c7, if_pos c8, if_neg c24, if_pos c25, if_neg c26]
            exact k_vret kx hK hP73 hD74 hS72 (u := upd (upd (upd (upd (upd (upd (upd (upd f 8 0) 11 (f 44)) 12 (f 45)) 13 (f 46)) 14 (f 47)) 15 (f 48)) 5 2) 10 (f 10)) rfl e0.symm dX7_hear_164
          · skip
            refine lv_aload_n hx hb dX7_hear_152 rfl (lv_at hl26 2 rfl) ?_
            refine lv_iload_n hx hb dX7_hear_153 rfl (lv_at hl26 3 rfl) ?_
            refine lv_bipush (v := 6) hx hb dX7_hear_154 (by decide) ?_
            refine lv_iadd hx hb dX7_hear_156 ?_
            refine k_top (y := 6) (by decide +kernel) ?_
            refine lv_iconst (v := 0) hx hb dX7_hear_157 (by decide) ?_
            refine k_iast kx hK hP73 hD74 hS72 0 rfl 6 rfl (by decide) (by decide) dX7_hear_158 (fun H75 locs75 hP75 hD75 hS75 => ?_)
            have hP76 : va_P G.1 vwCl ([(h0, .inl (G.2.1, 55, .inl (upd (upd (upd (upd (upd (upd (upd (upd (upd f 8 0) 11 (f 44)) 12 (f 45)) 13 (f 46)) 14 (f 47)) 15 (f 48)) 5 2) 10 (f 10)) 6 0)))]) H75 := hP75
            have hD77 : va_D A ([(h0, .inl (G.2.1, 55, .inl (upd (upd (upd (upd (upd (upd (upd (upd (upd f 8 0) 11 (f 44)) 12 (f 45)) 13 (f 46)) 14 (f 47)) 15 (f 48)) 5 2) 10 (f 10)) 6 0)))]) := hD75
            refine lv_aload_n hx hb dX7_hear_159 rfl (lv_at hl26 2 rfl) ?_
            refine lv_iload_n hx hb dX7_hear_160 rfl (lv_at hl26 3 rfl) ?_
            refine k_callv (kRunS (As := [.ref h0, .int 0]) (rest := []) kx (c_X7_useTold_0 l G (upd (upd (upd (upd (upd (upd (upd (upd (upd f 8 0) 11 (f 44)) 12 (f 45)) 13 (f 46)) 14 (f 47)) 15 (f 48)) 5 2) 10 (f 10)) 6 0) h0) q_759 q_757 q_36 q_758 nX7_useTold ⟨Nat.le_of_ble_eq_true rfl, Nat.le_of_ble_eq_true rfl⟩ hK hP76 hD77 (kCtx_all _) rfl hl26.1 (Nat.le_of_ble_eq_true rfl) dX7_hear_161 ⟨Nat.zero_le _, Nat.zero_le _⟩) hP76 hD77 hS75 hA (kCtx_all _) (fun _ => rfl) (fun _ H78 locs78 hw hP78 hD78 hS78 => ?_)
            have hP79 : va_P G.1 vwCl ([(h0, .inl (G.2.1, 55, .inl (upd (upd (upd (upd (upd (upd (upd (upd (upd (upd (upd f 8 0) 11 (f 44)) 12 (f 45)) 13 (f 46)) 14 (f 47)) 15 (f 48)) 5 2) 10 (f 10)) 6 0) 3 (f 0)) 4 (f 1))))]) H78 := hP78
            have hD80 : va_D A ([(h0, .inl (G.2.1, 55, .inl (upd (upd (upd (upd (upd (upd (upd (upd (upd (upd (upd f 8 0) 11 (f 44)) 12 (f 45)) 13 (f 46)) 14 (f 47)) 15 (f 48)) 5 2) 10 (f 10)) 6 0) 3 (f 0)) 4 (f 1))))]) := hD78
            have e0 : s_X7_hear_0_f f = upd (upd (upd (upd (upd (upd (upd (upd (upd (upd (upd f 8 0) 11 (f 44)) 12 (f 45)) 13 (f 46)) 14 (f 47)) 15 (f 48)) 5 2) 10 (f 10)) 6 0) 3 (f 0)) 4 (f 1) := by rw [s_X7_hear_0_f, if_neg c7, if_pos c8, if_neg c24, if_pos c25, if_pos c26]
            exact k_vret kx hK hP79 hD80 hS78 (u := upd (upd (upd (upd (upd (upd (upd (upd (upd (upd (upd f 8 0) 11 (f 44)) 12 (f 45)) 13 (f 46)) 14 (f 47)) 15 (f 48)) 5 2) 10 (f 10)) 6 0) 3 (f 0)) 4 (f 1)) rfl e0.symm dX7_hear_164
      · skip
        refine lv_iconst (v := 1) hx hb dX7_hear_121 (by decide) ?_
        refine lv_goto (tgt := 131) hx hb dX7_hear_122 (by decide) ?_
        refine k_iast kx hK hP70 hD71 hS69 0 rfl 10 rfl (by decide) (by decide) dX7_hear_131 (fun H81 locs81 hP81 hD81 hS81 => ?_)
        have hP82 : va_P G.1 vwCl ([(h0, .inl (G.2.1, 55, .inl (upd (upd (upd (upd (upd (upd (upd (upd f 8 0) 11 (f 44)) 12 (f 45)) 13 (f 46)) 14 (f 47)) 15 (f 48)) 5 2) 10 1)))]) H81 := hP81
        have hD83 : va_D A ([(h0, .inl (G.2.1, 55, .inl (upd (upd (upd (upd (upd (upd (upd (upd f 8 0) 11 (f 44)) 12 (f 45)) 13 (f 46)) 14 (f 47)) 15 (f 48)) 5 2) 10 1)))]) := hD81
        refine lv_aload_n hx hb dX7_hear_132 rfl (lv_at hl26 2 rfl) ?_
        refine lv_iload_n hx hb dX7_hear_133 rfl (lv_at hl26 4 rfl) ?_
        refine lv_bipush (v := 7) hx hb dX7_hear_134 (by decide) ?_
        refine lv_iadd hx hb dX7_hear_136 ?_
        refine k_top (y := 50) (by decide +kernel) ?_
        refine k_iald (v := (f 50)) kx hK hP82 0 rfl 50 rfl (by decide) (by decide) rfl dX7_hear_137 ?_
        refine lv_iconst (v := 1) hx hb dX7_hear_138 (by decide) ?_
        refine lv_icmp_ne (x := f 50) (y := 1) (tgt := 164) hx hb dX7_hear_139 (by decide) (fun (c28 : ¬ (f 50 = 1)) => ?_) (fun (c28 : f 50 = 1) => ?_)
        · skip
          have e0 : s_X7_hear_0_f f = upd (upd (upd (upd (upd (upd (upd (upd f 8 0) 11 (f 44)) 12 (f 45)) 13 (f 46)) 14 (f 47)) 15 (f 48)) 5 2) 10 1 := by rw [s_X7_hear_0_f, if_neg c7, if_pos c8, if_pos c24, if_neg c28]
          exact k_vret kx hK hP82 hD83 hS81 (u := upd (upd (upd (upd (upd (upd (upd (upd f 8 0) 11 (f 44)) 12 (f 45)) 13 (f 46)) 14 (f 47)) 15 (f 48)) 5 2) 10 1) rfl e0.symm dX7_hear_164
        · skip
          refine lv_aload_n hx hb dX7_hear_142 rfl (lv_at hl26 2 rfl) ?_
          refine lv_iload_n hx hb dX7_hear_143 rfl (lv_at hl26 3 rfl) ?_
          refine lv_bipush (v := 6) hx hb dX7_hear_144 (by decide) ?_
          refine lv_iadd hx hb dX7_hear_146 ?_
          refine k_top (y := 6) (by decide +kernel) ?_
          refine k_iald (v := (f 6)) kx hK hP82 0 rfl 6 rfl (by decide) (by decide) rfl dX7_hear_147 ?_
          refine lv_iconst (v := 1) hx hb dX7_hear_148 (by decide) ?_
          refine lv_icmp_ne (x := f 6) (y := 1) (tgt := 164) hx hb dX7_hear_149 (by decide) (fun (c29 : ¬ (f 6 = 1)) => ?_) (fun (c29 : f 6 = 1) => ?_)
          · skip
            have e0 : s_X7_hear_0_f f = upd (upd (upd (upd (upd (upd (upd (upd f 8 0) 11 (f 44)) 12 (f 45)) 13 (f 46)) 14 (f 47)) 15 (f 48)) 5 2) 10 1 := by rw [s_X7_hear_0_f, if_neg c7, if_pos c8, if_pos c24, if_pos c28, if_neg c29]
            exact k_vret kx hK hP82 hD83 hS81 (u := upd (upd (upd (upd (upd (upd (upd (upd f 8 0) 11 (f 44)) 12 (f 45)) 13 (f 46)) 14 (f 47)) 15 (f 48)) 5 2) 10 1) rfl e0.symm dX7_hear_164
          · skip
            refine lv_aload_n hx hb dX7_hear_152 rfl (lv_at hl26 2 rfl) ?_
            refine lv_iload_n hx hb dX7_hear_153 rfl (lv_at hl26 3 rfl) ?_
            refine lv_bipush (v := 6) hx hb dX7_hear_154 (by decide) ?_
            refine lv_iadd hx hb dX7_hear_156 ?_
            refine k_top (y := 6) (by decide +kernel) ?_
            refine lv_iconst (v := 0) hx hb dX7_hear_157 (by decide) ?_
            refine k_iast kx hK hP82 hD83 hS81 0 rfl 6 rfl (by decide) (by decide) dX7_hear_158 (fun H84 locs84 hP84 hD84 hS84 => ?_)
            have hP85 : va_P G.1 vwCl ([(h0, .inl (G.2.1, 55, .inl (upd (upd (upd (upd (upd (upd (upd (upd (upd f 8 0) 11 (f 44)) 12 (f 45)) 13 (f 46)) 14 (f 47)) 15 (f 48)) 5 2) 10 1) 6 0)))]) H84 := hP84
            have hD86 : va_D A ([(h0, .inl (G.2.1, 55, .inl (upd (upd (upd (upd (upd (upd (upd (upd (upd f 8 0) 11 (f 44)) 12 (f 45)) 13 (f 46)) 14 (f 47)) 15 (f 48)) 5 2) 10 1) 6 0)))]) := hD84
            refine lv_aload_n hx hb dX7_hear_159 rfl (lv_at hl26 2 rfl) ?_
            refine lv_iload_n hx hb dX7_hear_160 rfl (lv_at hl26 3 rfl) ?_
            refine k_callv (kRunS (As := [.ref h0, .int 0]) (rest := []) kx (c_X7_useTold_0 l G (upd (upd (upd (upd (upd (upd (upd (upd (upd f 8 0) 11 (f 44)) 12 (f 45)) 13 (f 46)) 14 (f 47)) 15 (f 48)) 5 2) 10 1) 6 0) h0) q_759 q_757 q_36 q_758 nX7_useTold ⟨Nat.le_of_ble_eq_true rfl, Nat.le_of_ble_eq_true rfl⟩ hK hP85 hD86 (kCtx_all _) rfl hl26.1 (Nat.le_of_ble_eq_true rfl) dX7_hear_161 ⟨Nat.zero_le _, Nat.zero_le _⟩) hP85 hD86 hS84 hA (kCtx_all _) (fun _ => rfl) (fun _ H87 locs87 hw hP87 hD87 hS87 => ?_)
            have hP88 : va_P G.1 vwCl ([(h0, .inl (G.2.1, 55, .inl (upd (upd (upd (upd (upd (upd (upd (upd (upd (upd (upd f 8 0) 11 (f 44)) 12 (f 45)) 13 (f 46)) 14 (f 47)) 15 (f 48)) 5 2) 10 1) 6 0) 3 (f 0)) 4 (f 1))))]) H87 := hP87
            have hD89 : va_D A ([(h0, .inl (G.2.1, 55, .inl (upd (upd (upd (upd (upd (upd (upd (upd (upd (upd (upd f 8 0) 11 (f 44)) 12 (f 45)) 13 (f 46)) 14 (f 47)) 15 (f 48)) 5 2) 10 1) 6 0) 3 (f 0)) 4 (f 1))))]) := hD87
            have e0 : s_X7_hear_0_f f = upd (upd (upd (upd (upd (upd (upd (upd (upd (upd (upd f 8 0) 11 (f 44)) 12 (f 45)) 13 (f 46)) 14 (f 47)) 15 (f 48)) 5 2) 10 1) 6 0) 3 (f 0)) 4 (f 1) := by rw [s_X7_hear_0_f, if_neg c7, if_pos c8, if_pos c24, if_pos c28, if_pos c29]
            exact k_vret kx hK hP88 hD89 hS87 (u := upd (upd (upd (upd (upd (upd (upd (upd (upd (upd (upd f 8 0) 11 (f 44)) 12 (f 45)) 13 (f 46)) 14 (f 47)) 15 (f 48)) 5 2) 10 1) 6 0) 3 (f 0)) 4 (f 1)) rfl e0.symm dX7_hear_164
  · skip
    refine lv_iload hx hb dX7_hear_52 (lv_at hl26 0 rfl) ?_
    refine lv_iconst (v := 2) hx hb dX7_hear_54 (by decide) ?_
    refine lv_icmp_ne (x := f 5) (y := 2) (tgt := 66) hx hb dX7_hear_55 (by decide) (fun (c31 : ¬ (f 5 = 2)) => ?_) (fun (c31 : f 5 = 2) => ?_)
    · skip
      refine lv_aload_n hx hb dX7_hear_66 rfl (lv_at hl26 2 rfl) ?_
      refine lv_iload_n hx hb dX7_hear_67 rfl (lv_at hl26 3 rfl) ?_
      refine lv_iconst (v := 5) hx hb dX7_hear_68 (by decide) ?_
      refine lv_iadd hx hb dX7_hear_69 ?_
      refine k_top (y := 5) (by decide +kernel) ?_
      refine lv_iconst (v := 1) hx hb dX7_hear_70 (by decide) ?_
      refine k_iast kx hK hP22 hD23 hS21 0 rfl 5 rfl (by decide) (by decide) dX7_hear_71 (fun H90 locs90 hP90 hD90 hS90 => ?_)
      have hP91 : va_P G.1 vwCl ([(h0, .inl (G.2.1, 55, .inl (upd (upd (upd (upd (upd (upd (upd f 8 0) 11 (f 44)) 12 (f 45)) 13 (f 46)) 14 (f 47)) 15 (f 48)) 5 1)))]) H90 := hP90
      have hD92 : va_D A ([(h0, .inl (G.2.1, 55, .inl (upd (upd (upd (upd (upd (upd (upd f 8 0) 11 (f 44)) 12 (f 45)) 13 (f 46)) 14 (f 47)) 15 (f 48)) 5 1)))]) := hD90
      refine lv_goto (tgt := 106) hx hb dX7_hear_72 (by decide) ?_
      refine lv_aload_n hx hb dX7_hear_106 rfl (lv_at hl26 2 rfl) ?_
      refine lv_iload_n hx hb dX7_hear_107 rfl (lv_at hl26 3 rfl) ?_
      refine lv_bipush (v := 10) hx hb dX7_hear_108 (by decide) ?_
      refine lv_iadd hx hb dX7_hear_110 ?_
      refine k_top (y := 10) (by decide +kernel) ?_
      refine lv_aload_n hx hb dX7_hear_111 rfl (lv_at hl26 2 rfl) ?_
      refine lv_iload_n hx hb dX7_hear_112 rfl (lv_at hl26 4 rfl) ?_
      refine lv_bipush (v := 6) hx hb dX7_hear_113 (by decide) ?_
      refine lv_iadd hx hb dX7_hear_115 ?_
      refine k_top (y := 49) (by decide +kernel) ?_
      refine k_iald (v := (f 49)) kx hK hP91 0 rfl 49 rfl (by decide) (by decide) rfl dX7_hear_116 ?_
      refine lv_iconst (v := 1) hx hb dX7_hear_117 (by decide) ?_
      refine lv_icmp_ne (x := f 49) (y := 1) (tgt := 125) hx hb dX7_hear_118 (by decide) (fun (c32 : ¬ (f 49 = 1)) => ?_) (fun (c32 : f 49 = 1) => ?_)
      · skip
        refine lv_aload_n hx hb dX7_hear_125 rfl (lv_at hl26 2 rfl) ?_
        refine lv_iload_n hx hb dX7_hear_126 rfl (lv_at hl26 3 rfl) ?_
        refine lv_bipush (v := 10) hx hb dX7_hear_127 (by decide) ?_
        refine lv_iadd hx hb dX7_hear_129 ?_
        refine k_top (y := 10) (by decide +kernel) ?_
        refine k_iald (v := (f 10)) kx hK hP91 0 rfl 10 rfl (by decide) (by decide) rfl dX7_hear_130 ?_
        refine k_iast kx hK hP91 hD92 hS90 0 rfl 10 rfl (by decide) (by decide) dX7_hear_131 (fun H93 locs93 hP93 hD93 hS93 => ?_)
        have hP94 : va_P G.1 vwCl ([(h0, .inl (G.2.1, 55, .inl (upd (upd (upd (upd (upd (upd (upd (upd f 8 0) 11 (f 44)) 12 (f 45)) 13 (f 46)) 14 (f 47)) 15 (f 48)) 5 1) 10 (f 10))))]) H93 := hP93
        have hD95 : va_D A ([(h0, .inl (G.2.1, 55, .inl (upd (upd (upd (upd (upd (upd (upd (upd f 8 0) 11 (f 44)) 12 (f 45)) 13 (f 46)) 14 (f 47)) 15 (f 48)) 5 1) 10 (f 10))))]) := hD93
        refine lv_aload_n hx hb dX7_hear_132 rfl (lv_at hl26 2 rfl) ?_
        refine lv_iload_n hx hb dX7_hear_133 rfl (lv_at hl26 4 rfl) ?_
        refine lv_bipush (v := 7) hx hb dX7_hear_134 (by decide) ?_
        refine lv_iadd hx hb dX7_hear_136 ?_
        refine k_top (y := 50) (by decide +kernel) ?_
        refine k_iald (v := (f 50)) kx hK hP94 0 rfl 50 rfl (by decide) (by decide) rfl dX7_hear_137 ?_
        refine lv_iconst (v := 1) hx hb dX7_hear_138 (by decide) ?_
        refine lv_icmp_ne (x := f 50) (y := 1) (tgt := 164) hx hb dX7_hear_139 (by decide) (fun (c33 : ¬ (f 50 = 1)) => ?_) (fun (c33 : f 50 = 1) => ?_)
        · skip
          have e0 : s_X7_hear_0_f f = upd (upd (upd (upd (upd (upd (upd (upd f 8 0) 11 (f 44)) 12 (f 45)) 13 (f 46)) 14 (f 47)) 15 (f 48)) 5 1) 10 (f 10) := by rw [s_X7_hear_0_f, if_pos c7, if_neg c31, if_neg c32, if_neg c33]
          exact k_vret kx hK hP94 hD95 hS93 (u := upd (upd (upd (upd (upd (upd (upd (upd f 8 0) 11 (f 44)) 12 (f 45)) 13 (f 46)) 14 (f 47)) 15 (f 48)) 5 1) 10 (f 10)) rfl e0.symm dX7_hear_164
        · skip
          refine lv_aload_n hx hb dX7_hear_142 rfl (lv_at hl26 2 rfl) ?_
          refine lv_iload_n hx hb dX7_hear_143 rfl (lv_at hl26 3 rfl) ?_
          refine lv_bipush (v := 6) hx hb dX7_hear_144 (by decide) ?_
          refine lv_iadd hx hb dX7_hear_146 ?_
          refine k_top (y := 6) (by decide +kernel) ?_
          refine k_iald (v := (f 6)) kx hK hP94 0 rfl 6 rfl (by decide) (by decide) rfl dX7_hear_147 ?_
          refine lv_iconst (v := 1) hx hb dX7_hear_148 (by decide) ?_
          refine lv_icmp_ne (x := f 6) (y := 1) (tgt := 164) hx hb dX7_hear_149 (by decide) (fun (c34 : ¬ (f 6 = 1)) => ?_) (fun (c34 : f 6 = 1) => ?_)
          · skip
            have e0 : s_X7_hear_0_f f = upd (upd (upd (upd (upd (upd (upd (upd f 8 0) 11 (f 44)) 12 (f 45)) 13 (f 46)) 14 (f 47)) 15 (f 48)) 5 1) 10 (f 10) := by rw [s_X7_hear_0_f, if_pos c7, if_neg c31, if_neg c32, if_pos c33, if_neg c34]
            exact k_vret kx hK hP94 hD95 hS93 (u := upd (upd (upd (upd (upd (upd (upd (upd f 8 0) 11 (f 44)) 12 (f 45)) 13 (f 46)) 14 (f 47)) 15 (f 48)) 5 1) 10 (f 10)) rfl e0.symm dX7_hear_164
          · skip
            refine lv_aload_n hx hb dX7_hear_152 rfl (lv_at hl26 2 rfl) ?_
            refine lv_iload_n hx hb dX7_hear_153 rfl (lv_at hl26 3 rfl) ?_
            refine lv_bipush (v := 6) hx hb dX7_hear_154 (by decide) ?_
            refine lv_iadd hx hb dX7_hear_156 ?_
            refine k_top (y := 6) (by decide +kernel) ?_
            refine lv_iconst (v := 0) hx hb dX7_hear_157 (by decide) ?_
            refine k_iast kx hK hP94 hD95 hS93 0 rfl 6 rfl (by decide) (by decide) dX7_hear_158 (fun H96 locs96 hP96 hD96 hS96 => ?_)
            have hP97 : va_P G.1 vwCl ([(h0, .inl (G.2.1, 55, .inl (upd (upd (upd (upd (upd (upd (upd (upd (upd f 8 0) 11 (f 44)) 12 (f 45)) 13 (f 46)) 14 (f 47)) 15 (f 48)) 5 1) 10 (f 10)) 6 0)))]) H96 := hP96
            have hD98 : va_D A ([(h0, .inl (G.2.1, 55, .inl (upd (upd (upd (upd (upd (upd (upd (upd (upd f 8 0) 11 (f 44)) 12 (f 45)) 13 (f 46)) 14 (f 47)) 15 (f 48)) 5 1) 10 (f 10)) 6 0)))]) := hD96
            refine lv_aload_n hx hb dX7_hear_159 rfl (lv_at hl26 2 rfl) ?_
            refine lv_iload_n hx hb dX7_hear_160 rfl (lv_at hl26 3 rfl) ?_
            refine k_callv (kRunS (As := [.ref h0, .int 0]) (rest := []) kx (c_X7_useTold_0 l G (upd (upd (upd (upd (upd (upd (upd (upd (upd f 8 0) 11 (f 44)) 12 (f 45)) 13 (f 46)) 14 (f 47)) 15 (f 48)) 5 1) 10 (f 10)) 6 0) h0) q_759 q_757 q_36 q_758 nX7_useTold ⟨Nat.le_of_ble_eq_true rfl, Nat.le_of_ble_eq_true rfl⟩ hK hP97 hD98 (kCtx_all _) rfl hl26.1 (Nat.le_of_ble_eq_true rfl) dX7_hear_161 ⟨Nat.zero_le _, Nat.zero_le _⟩) hP97 hD98 hS96 hA (kCtx_all _) (fun _ => rfl) (fun _ H99 locs99 hw hP99 hD99 hS99 => ?_)
            have hP100 : va_P G.1 vwCl ([(h0, .inl (G.2.1, 55, .inl (upd (upd (upd (upd (upd (upd (upd (upd (upd (upd (upd f 8 0) 11 (f 44)) 12 (f 45)) 13 (f 46)) 14 (f 47)) 15 (f 48)) 5 1) 10 (f 10)) 6 0) 3 (f 0)) 4 (f 1))))]) H99 := hP99
            have hD101 : va_D A ([(h0, .inl (G.2.1, 55, .inl (upd (upd (upd (upd (upd (upd (upd (upd (upd (upd (upd f 8 0) 11 (f 44)) 12 (f 45)) 13 (f 46)) 14 (f 47)) 15 (f 48)) 5 1) 10 (f 10)) 6 0) 3 (f 0)) 4 (f 1))))]) := hD99
            have e0 : s_X7_hear_0_f f = upd (upd (upd (upd (upd (upd (upd (upd (upd (upd (upd f 8 0) 11 (f 44)) 12 (f 45)) 13 (f 46)) 14 (f 47)) 15 (f 48)) 5 1) 10 (f 10)) 6 0) 3 (f 0)) 4 (f 1) := by rw [s_X7_hear_0_f, if_pos c7, if_neg c31, if_neg c32, if_pos c33, if_pos c34]
            exact k_vret kx hK hP100 hD101 hS99 (u := upd (upd (upd (upd (upd (upd (upd (upd (upd (upd (upd f 8 0) 11 (f 44)) 12 (f 45)) 13 (f 46)) 14 (f 47)) 15 (f 48)) 5 1) 10 (f 10)) 6 0) 3 (f 0)) 4 (f 1)) rfl e0.symm dX7_hear_164
      · skip
        refine lv_iconst (v := 1) hx hb dX7_hear_121 (by decide) ?_
        refine lv_goto (tgt := 131) hx hb dX7_hear_122 (by decide) ?_
        refine k_iast kx hK hP91 hD92 hS90 0 rfl 10 rfl (by decide) (by decide) dX7_hear_131 (fun H102 locs102 hP102 hD102 hS102 => ?_)
        have hP103 : va_P G.1 vwCl ([(h0, .inl (G.2.1, 55, .inl (upd (upd (upd (upd (upd (upd (upd (upd f 8 0) 11 (f 44)) 12 (f 45)) 13 (f 46)) 14 (f 47)) 15 (f 48)) 5 1) 10 1)))]) H102 := hP102
        have hD104 : va_D A ([(h0, .inl (G.2.1, 55, .inl (upd (upd (upd (upd (upd (upd (upd (upd f 8 0) 11 (f 44)) 12 (f 45)) 13 (f 46)) 14 (f 47)) 15 (f 48)) 5 1) 10 1)))]) := hD102
        refine lv_aload_n hx hb dX7_hear_132 rfl (lv_at hl26 2 rfl) ?_
        refine lv_iload_n hx hb dX7_hear_133 rfl (lv_at hl26 4 rfl) ?_
        refine lv_bipush (v := 7) hx hb dX7_hear_134 (by decide) ?_
        refine lv_iadd hx hb dX7_hear_136 ?_
        refine k_top (y := 50) (by decide +kernel) ?_
        refine k_iald (v := (f 50)) kx hK hP103 0 rfl 50 rfl (by decide) (by decide) rfl dX7_hear_137 ?_
        refine lv_iconst (v := 1) hx hb dX7_hear_138 (by decide) ?_
        refine lv_icmp_ne (x := f 50) (y := 1) (tgt := 164) hx hb dX7_hear_139 (by decide) (fun (c36 : ¬ (f 50 = 1)) => ?_) (fun (c36 : f 50 = 1) => ?_)
        · skip
          have e0 : s_X7_hear_0_f f = upd (upd (upd (upd (upd (upd (upd (upd f 8 0) 11 (f 44)) 12 (f 45)) 13 (f 46)) 14 (f 47)) 15 (f 48)) 5 1) 10 1 := by rw [s_X7_hear_0_f, if_pos c7, if_neg c31, if_pos c32, if_neg c36]
          exact k_vret kx hK hP103 hD104 hS102 (u := upd (upd (upd (upd (upd (upd (upd (upd f 8 0) 11 (f 44)) 12 (f 45)) 13 (f 46)) 14 (f 47)) 15 (f 48)) 5 1) 10 1) rfl e0.symm dX7_hear_164
        · skip
          refine lv_aload_n hx hb dX7_hear_142 rfl (lv_at hl26 2 rfl) ?_
          refine lv_iload_n hx hb dX7_hear_143 rfl (lv_at hl26 3 rfl) ?_
          refine lv_bipush (v := 6) hx hb dX7_hear_144 (by decide) ?_
          refine lv_iadd hx hb dX7_hear_146 ?_
          refine k_top (y := 6) (by decide +kernel) ?_
          refine k_iald (v := (f 6)) kx hK hP103 0 rfl 6 rfl (by decide) (by decide) rfl dX7_hear_147 ?_
          refine lv_iconst (v := 1) hx hb dX7_hear_148 (by decide) ?_
          refine lv_icmp_ne (x := f 6) (y := 1) (tgt := 164) hx hb dX7_hear_149 (by decide) (fun (c37 : ¬ (f 6 = 1)) => ?_) (fun (c37 : f 6 = 1) => ?_)
          · skip
            have e0 : s_X7_hear_0_f f = upd (upd (upd (upd (upd (upd (upd (upd f 8 0) 11 (f 44)) 12 (f 45)) 13 (f 46)) 14 (f 47)) 15 (f 48)) 5 1) 10 1 := by rw [s_X7_hear_0_f, if_pos c7, if_neg c31, if_pos c32, if_pos c36, if_neg c37]
            exact k_vret kx hK hP103 hD104 hS102 (u := upd (upd (upd (upd (upd (upd (upd (upd f 8 0) 11 (f 44)) 12 (f 45)) 13 (f 46)) 14 (f 47)) 15 (f 48)) 5 1) 10 1) rfl e0.symm dX7_hear_164
          · skip
            refine lv_aload_n hx hb dX7_hear_152 rfl (lv_at hl26 2 rfl) ?_
            refine lv_iload_n hx hb dX7_hear_153 rfl (lv_at hl26 3 rfl) ?_
            refine lv_bipush (v := 6) hx hb dX7_hear_154 (by decide) ?_
            refine lv_iadd hx hb dX7_hear_156 ?_
            refine k_top (y := 6) (by decide +kernel) ?_
            refine lv_iconst (v := 0) hx hb dX7_hear_157 (by decide) ?_
            refine k_iast kx hK hP103 hD104 hS102 0 rfl 6 rfl (by decide) (by decide) dX7_hear_158 (fun H105 locs105 hP105 hD105 hS105 => ?_)
            have hP106 : va_P G.1 vwCl ([(h0, .inl (G.2.1, 55, .inl (upd (upd (upd (upd (upd (upd (upd (upd (upd f 8 0) 11 (f 44)) 12 (f 45)) 13 (f 46)) 14 (f 47)) 15 (f 48)) 5 1) 10 1) 6 0)))]) H105 := hP105
            have hD107 : va_D A ([(h0, .inl (G.2.1, 55, .inl (upd (upd (upd (upd (upd (upd (upd (upd (upd f 8 0) 11 (f 44)) 12 (f 45)) 13 (f 46)) 14 (f 47)) 15 (f 48)) 5 1) 10 1) 6 0)))]) := hD105
            refine lv_aload_n hx hb dX7_hear_159 rfl (lv_at hl26 2 rfl) ?_
            refine lv_iload_n hx hb dX7_hear_160 rfl (lv_at hl26 3 rfl) ?_
            refine k_callv (kRunS (As := [.ref h0, .int 0]) (rest := []) kx (c_X7_useTold_0 l G (upd (upd (upd (upd (upd (upd (upd (upd (upd f 8 0) 11 (f 44)) 12 (f 45)) 13 (f 46)) 14 (f 47)) 15 (f 48)) 5 1) 10 1) 6 0) h0) q_759 q_757 q_36 q_758 nX7_useTold ⟨Nat.le_of_ble_eq_true rfl, Nat.le_of_ble_eq_true rfl⟩ hK hP106 hD107 (kCtx_all _) rfl hl26.1 (Nat.le_of_ble_eq_true rfl) dX7_hear_161 ⟨Nat.zero_le _, Nat.zero_le _⟩) hP106 hD107 hS105 hA (kCtx_all _) (fun _ => rfl) (fun _ H108 locs108 hw hP108 hD108 hS108 => ?_)
            have hP109 : va_P G.1 vwCl ([(h0, .inl (G.2.1, 55, .inl (upd (upd (upd (upd (upd (upd (upd (upd (upd (upd (upd f 8 0) 11 (f 44)) 12 (f 45)) 13 (f 46)) 14 (f 47)) 15 (f 48)) 5 1) 10 1) 6 0) 3 (f 0)) 4 (f 1))))]) H108 := hP108
            have hD110 : va_D A ([(h0, .inl (G.2.1, 55, .inl (upd (upd (upd (upd (upd (upd (upd (upd (upd (upd (upd f 8 0) 11 (f 44)) 12 (f 45)) 13 (f 46)) 14 (f 47)) 15 (f 48)) 5 1) 10 1) 6 0) 3 (f 0)) 4 (f 1))))]) := hD108
            have e0 : s_X7_hear_0_f f = upd (upd (upd (upd (upd (upd (upd (upd (upd (upd (upd f 8 0) 11 (f 44)) 12 (f 45)) 13 (f 46)) 14 (f 47)) 15 (f 48)) 5 1) 10 1) 6 0) 3 (f 0)) 4 (f 1) := by rw [s_X7_hear_0_f, if_pos c7, if_neg c31, if_pos c32, if_pos c36, if_pos c37]
            exact k_vret kx hK hP109 hD110 hS108 (u := upd (upd (upd (upd (upd (upd (upd (upd (upd (upd (upd f 8 0) 11 (f 44)) 12 (f 45)) 13 (f 46)) 14 (f 47)) 15 (f 48)) 5 1) 10 1) 6 0) 3 (f 0)) 4 (f 1)) rfl e0.symm dX7_hear_164
    · skip
      refine lv_aload_n hx hb dX7_hear_58 rfl (lv_at hl26 2 rfl) ?_
      refine lv_iload_n hx hb dX7_hear_59 rfl (lv_at hl26 3 rfl) ?_
      refine k_callv (kRunS (As := [.ref h0, .int 0]) (rest := []) kx (c_X7_fall_0 l G (upd (upd (upd (upd (upd (upd f 8 0) 11 (f 44)) 12 (f 45)) 13 (f 46)) 14 (f 47)) 15 (f 48)) h0) q_792 q_790 q_36 q_791 nX7_fall ⟨Nat.le_of_ble_eq_true rfl, Nat.le_of_ble_eq_true rfl⟩ hK hP22 hD23 (kCtx_all _) rfl hl26.1 (Nat.le_of_ble_eq_true rfl) dX7_hear_60 ⟨Nat.zero_le _, Nat.zero_le _⟩) hP22 hD23 hS21 hA (kCtx_all _) (fun _ => rfl) (fun _ H111 locs111 hw hP111 hD111 hS111 => ?_)
      have hP112 : va_P G.1 vwCl ([(h0, .inl (G.2.1, 55, .inl (upd (upd (upd (upd (upd (upd (upd (upd (upd (upd f 8 0) 11 (f 44)) 12 (f 45)) 13 (f 46)) 14 (f 47)) 15 (f 48)) 5 0) 6 0) 3 (f 0)) 4 (f 1))))]) H111 := hP111
      have hD113 : va_D A ([(h0, .inl (G.2.1, 55, .inl (upd (upd (upd (upd (upd (upd (upd (upd (upd (upd f 8 0) 11 (f 44)) 12 (f 45)) 13 (f 46)) 14 (f 47)) 15 (f 48)) 5 0) 6 0) 3 (f 0)) 4 (f 1))))]) := hD111
      refine lv_goto (tgt := 106) hx hb dX7_hear_63 (by decide) ?_
      refine lv_aload_n hx hb dX7_hear_106 rfl (lv_at hl26 2 rfl) ?_
      refine lv_iload_n hx hb dX7_hear_107 rfl (lv_at hl26 3 rfl) ?_
      refine lv_bipush (v := 10) hx hb dX7_hear_108 (by decide) ?_
      refine lv_iadd hx hb dX7_hear_110 ?_
      refine k_top (y := 10) (by decide +kernel) ?_
      refine lv_aload_n hx hb dX7_hear_111 rfl (lv_at hl26 2 rfl) ?_
      refine lv_iload_n hx hb dX7_hear_112 rfl (lv_at hl26 4 rfl) ?_
      refine lv_bipush (v := 6) hx hb dX7_hear_113 (by decide) ?_
      refine lv_iadd hx hb dX7_hear_115 ?_
      refine k_top (y := 49) (by decide +kernel) ?_
      refine k_iald (v := (f 49)) kx hK hP112 0 rfl 49 rfl (by decide) (by decide) rfl dX7_hear_116 ?_
      refine lv_iconst (v := 1) hx hb dX7_hear_117 (by decide) ?_
      refine lv_icmp_ne (x := f 49) (y := 1) (tgt := 125) hx hb dX7_hear_118 (by decide) (fun (c40 : ¬ (f 49 = 1)) => ?_) (fun (c40 : f 49 = 1) => ?_)
      · skip
        refine lv_aload_n hx hb dX7_hear_125 rfl (lv_at hl26 2 rfl) ?_
        refine lv_iload_n hx hb dX7_hear_126 rfl (lv_at hl26 3 rfl) ?_
        refine lv_bipush (v := 10) hx hb dX7_hear_127 (by decide) ?_
        refine lv_iadd hx hb dX7_hear_129 ?_
        refine k_top (y := 10) (by decide +kernel) ?_
        refine k_iald (v := (f 10)) kx hK hP112 0 rfl 10 rfl (by decide) (by decide) rfl dX7_hear_130 ?_
        refine k_iast kx hK hP112 hD113 hS111 0 rfl 10 rfl (by decide) (by decide) dX7_hear_131 (fun H114 locs114 hP114 hD114 hS114 => ?_)
        have hP115 : va_P G.1 vwCl ([(h0, .inl (G.2.1, 55, .inl (upd (upd (upd (upd (upd (upd (upd (upd (upd (upd (upd f 8 0) 11 (f 44)) 12 (f 45)) 13 (f 46)) 14 (f 47)) 15 (f 48)) 5 0) 6 0) 3 (f 0)) 4 (f 1)) 10 (f 10))))]) H114 := hP114
        have hD116 : va_D A ([(h0, .inl (G.2.1, 55, .inl (upd (upd (upd (upd (upd (upd (upd (upd (upd (upd (upd f 8 0) 11 (f 44)) 12 (f 45)) 13 (f 46)) 14 (f 47)) 15 (f 48)) 5 0) 6 0) 3 (f 0)) 4 (f 1)) 10 (f 10))))]) := hD114
        refine lv_aload_n hx hb dX7_hear_132 rfl (lv_at hl26 2 rfl) ?_
        refine lv_iload_n hx hb dX7_hear_133 rfl (lv_at hl26 4 rfl) ?_
        refine lv_bipush (v := 7) hx hb dX7_hear_134 (by decide) ?_
        refine lv_iadd hx hb dX7_hear_136 ?_
        refine k_top (y := 50) (by decide +kernel) ?_
        refine k_iald (v := (f 50)) kx hK hP115 0 rfl 50 rfl (by decide) (by decide) rfl dX7_hear_137 ?_
        refine lv_iconst (v := 1) hx hb dX7_hear_138 (by decide) ?_
        refine lv_icmp_ne (x := f 50) (y := 1) (tgt := 164) hx hb dX7_hear_139 (by decide) (fun (c41 : ¬ (f 50 = 1)) => ?_) (fun (c41 : f 50 = 1) => ?_)
        · skip
          have e0 : s_X7_hear_0_f f = upd (upd (upd (upd (upd (upd (upd (upd (upd (upd (upd f 8 0) 11 (f 44)) 12 (f 45)) 13 (f 46)) 14 (f 47)) 15 (f 48)) 5 0) 6 0) 3 (f 0)) 4 (f 1)) 10 (f 10) := by rw [s_X7_hear_0_f, if_pos c7, if_pos c31, if_neg c40, if_neg c41]
          exact k_vret kx hK hP115 hD116 hS114 (u := upd (upd (upd (upd (upd (upd (upd (upd (upd (upd (upd f 8 0) 11 (f 44)) 12 (f 45)) 13 (f 46)) 14 (f 47)) 15 (f 48)) 5 0) 6 0) 3 (f 0)) 4 (f 1)) 10 (f 10)) rfl e0.symm dX7_hear_164
        · skip
          refine lv_aload_n hx hb dX7_hear_142 rfl (lv_at hl26 2 rfl) ?_
          refine lv_iload_n hx hb dX7_hear_143 rfl (lv_at hl26 3 rfl) ?_
          refine lv_bipush (v := 6) hx hb dX7_hear_144 (by decide) ?_
          refine lv_iadd hx hb dX7_hear_146 ?_
          refine k_top (y := 6) (by decide +kernel) ?_
          refine k_iald (v := 0) kx hK hP115 0 rfl 6 rfl (by decide) (by decide) rfl dX7_hear_147 ?_
          refine lv_iconst (v := 1) hx hb dX7_hear_148 (by decide) ?_
          refine lv_icmp_ne (x := 0) (y := 1) (tgt := 164) hx hb dX7_hear_149 (by decide) (fun (c42 : ¬ (0 = 1)) => ?_) (fun (c42 : 0 = 1) => absurd c42 (by decide))
          have e0 : s_X7_hear_0_f f = upd (upd (upd (upd (upd (upd (upd (upd (upd (upd (upd f 8 0) 11 (f 44)) 12 (f 45)) 13 (f 46)) 14 (f 47)) 15 (f 48)) 5 0) 6 0) 3 (f 0)) 4 (f 1)) 10 (f 10) := by rw [s_X7_hear_0_f, if_pos c7, if_pos c31, if_neg c40, if_pos c41]
          exact k_vret kx hK hP115 hD116 hS114 (u := upd (upd (upd (upd (upd (upd (upd (upd (upd (upd (upd f 8 0) 11 (f 44)) 12 (f 45)) 13 (f 46)) 14 (f 47)) 15 (f 48)) 5 0) 6 0) 3 (f 0)) 4 (f 1)) 10 (f 10)) rfl e0.symm dX7_hear_164
      · skip
        refine lv_iconst (v := 1) hx hb dX7_hear_121 (by decide) ?_
        refine lv_goto (tgt := 131) hx hb dX7_hear_122 (by decide) ?_
        refine k_iast kx hK hP112 hD113 hS111 0 rfl 10 rfl (by decide) (by decide) dX7_hear_131 (fun H117 locs117 hP117 hD117 hS117 => ?_)
        have hP118 : va_P G.1 vwCl ([(h0, .inl (G.2.1, 55, .inl (upd (upd (upd (upd (upd (upd (upd (upd (upd (upd (upd f 8 0) 11 (f 44)) 12 (f 45)) 13 (f 46)) 14 (f 47)) 15 (f 48)) 5 0) 6 0) 3 (f 0)) 4 (f 1)) 10 1)))]) H117 := hP117
        have hD119 : va_D A ([(h0, .inl (G.2.1, 55, .inl (upd (upd (upd (upd (upd (upd (upd (upd (upd (upd (upd f 8 0) 11 (f 44)) 12 (f 45)) 13 (f 46)) 14 (f 47)) 15 (f 48)) 5 0) 6 0) 3 (f 0)) 4 (f 1)) 10 1)))]) := hD117
        refine lv_aload_n hx hb dX7_hear_132 rfl (lv_at hl26 2 rfl) ?_
        refine lv_iload_n hx hb dX7_hear_133 rfl (lv_at hl26 4 rfl) ?_
        refine lv_bipush (v := 7) hx hb dX7_hear_134 (by decide) ?_
        refine lv_iadd hx hb dX7_hear_136 ?_
        refine k_top (y := 50) (by decide +kernel) ?_
        refine k_iald (v := (f 50)) kx hK hP118 0 rfl 50 rfl (by decide) (by decide) rfl dX7_hear_137 ?_
        refine lv_iconst (v := 1) hx hb dX7_hear_138 (by decide) ?_
        refine lv_icmp_ne (x := f 50) (y := 1) (tgt := 164) hx hb dX7_hear_139 (by decide) (fun (c43 : ¬ (f 50 = 1)) => ?_) (fun (c43 : f 50 = 1) => ?_)
        · skip
          have e0 : s_X7_hear_0_f f = upd (upd (upd (upd (upd (upd (upd (upd (upd (upd (upd f 8 0) 11 (f 44)) 12 (f 45)) 13 (f 46)) 14 (f 47)) 15 (f 48)) 5 0) 6 0) 3 (f 0)) 4 (f 1)) 10 1 := by rw [s_X7_hear_0_f, if_pos c7, if_pos c31, if_pos c40, if_neg c43]
          exact k_vret kx hK hP118 hD119 hS117 (u := upd (upd (upd (upd (upd (upd (upd (upd (upd (upd (upd f 8 0) 11 (f 44)) 12 (f 45)) 13 (f 46)) 14 (f 47)) 15 (f 48)) 5 0) 6 0) 3 (f 0)) 4 (f 1)) 10 1) rfl e0.symm dX7_hear_164
        · skip
          refine lv_aload_n hx hb dX7_hear_142 rfl (lv_at hl26 2 rfl) ?_
          refine lv_iload_n hx hb dX7_hear_143 rfl (lv_at hl26 3 rfl) ?_
          refine lv_bipush (v := 6) hx hb dX7_hear_144 (by decide) ?_
          refine lv_iadd hx hb dX7_hear_146 ?_
          refine k_top (y := 6) (by decide +kernel) ?_
          refine k_iald (v := 0) kx hK hP118 0 rfl 6 rfl (by decide) (by decide) rfl dX7_hear_147 ?_
          refine lv_iconst (v := 1) hx hb dX7_hear_148 (by decide) ?_
          refine lv_icmp_ne (x := 0) (y := 1) (tgt := 164) hx hb dX7_hear_149 (by decide) (fun (c44 : ¬ (0 = 1)) => ?_) (fun (c44 : 0 = 1) => absurd c44 (by decide))
          have e0 : s_X7_hear_0_f f = upd (upd (upd (upd (upd (upd (upd (upd (upd (upd (upd f 8 0) 11 (f 44)) 12 (f 45)) 13 (f 46)) 14 (f 47)) 15 (f 48)) 5 0) 6 0) 3 (f 0)) 4 (f 1)) 10 1 := by rw [s_X7_hear_0_f, if_pos c7, if_pos c31, if_pos c40, if_pos c43]
          exact k_vret kx hK hP118 hD119 hS117 (u := upd (upd (upd (upd (upd (upd (upd (upd (upd (upd (upd f 8 0) 11 (f 44)) 12 (f 45)) 13 (f 46)) 14 (f 47)) 15 (f 48)) 5 0) 6 0) 3 (f 0)) 4 (f 1)) 10 1) rfl e0.symm dX7_hear_164

def s_X7_hear_16_f (f : Nat → Int32) : Nat → Int32 := if f 35 = 0 then (if f 21 = 2 then (if f 40 = 1 then (if f 41 = 1 then (upd (upd (upd (upd (upd (upd (upd (upd (upd (upd (upd f 24 0) 27 (f 35)) 28 (f 36)) 29 (f 37)) 30 (f 38)) 31 (f 39)) 21 0) 22 0) 19 (f 16)) 20 (f 17)) 26 1) else upd (upd (upd (upd (upd (upd (upd (upd (upd (upd (upd f 24 0) 27 (f 35)) 28 (f 36)) 29 (f 37)) 30 (f 38)) 31 (f 39)) 21 0) 22 0) 19 (f 16)) 20 (f 17)) 26 1) else if f 41 = 1 then (upd (upd (upd (upd (upd (upd (upd (upd (upd (upd (upd f 24 0) 27 (f 35)) 28 (f 36)) 29 (f 37)) 30 (f 38)) 31 (f 39)) 21 0) 22 0) 19 (f 16)) 20 (f 17)) 26 (f 26)) else upd (upd (upd (upd (upd (upd (upd (upd (upd (upd (upd f 24 0) 27 (f 35)) 28 (f 36)) 29 (f 37)) 30 (f 38)) 31 (f 39)) 21 0) 22 0) 19 (f 16)) 20 (f 17)) 26 (f 26)) else if f 40 = 1 then (if f 41 = 1 then (if f 22 = 1 then (upd (upd (upd (upd (upd (upd (upd (upd (upd (upd (upd f 24 0) 27 (f 35)) 28 (f 36)) 29 (f 37)) 30 (f 38)) 31 (f 39)) 21 1) 26 1) 22 0) 19 (f 16)) 20 (f 17)) else upd (upd (upd (upd (upd (upd (upd (upd f 24 0) 27 (f 35)) 28 (f 36)) 29 (f 37)) 30 (f 38)) 31 (f 39)) 21 1) 26 1) else upd (upd (upd (upd (upd (upd (upd (upd f 24 0) 27 (f 35)) 28 (f 36)) 29 (f 37)) 30 (f 38)) 31 (f 39)) 21 1) 26 1) else if f 41 = 1 then (if f 22 = 1 then (upd (upd (upd (upd (upd (upd (upd (upd (upd (upd (upd f 24 0) 27 (f 35)) 28 (f 36)) 29 (f 37)) 30 (f 38)) 31 (f 39)) 21 1) 26 (f 26)) 22 0) 19 (f 16)) 20 (f 17)) else upd (upd (upd (upd (upd (upd (upd (upd f 24 0) 27 (f 35)) 28 (f 36)) 29 (f 37)) 30 (f 38)) 31 (f 39)) 21 1) 26 (f 26)) else upd (upd (upd (upd (upd (upd (upd (upd f 24 0) 27 (f 35)) 28 (f 36)) 29 (f 37)) 30 (f 38)) 31 (f 39)) 21 1) 26 (f 26)) else if f 35 = 1 then (if f 40 = 1 then (if f 41 = 1 then (if f 22 = 1 then (upd (upd (upd (upd (upd (upd (upd (upd (upd (upd (upd f 24 0) 27 (f 35)) 28 (f 36)) 29 (f 37)) 30 (f 38)) 31 (f 39)) 21 2) 26 1) 22 0) 19 (f 16)) 20 (f 17)) else upd (upd (upd (upd (upd (upd (upd (upd f 24 0) 27 (f 35)) 28 (f 36)) 29 (f 37)) 30 (f 38)) 31 (f 39)) 21 2) 26 1) else upd (upd (upd (upd (upd (upd (upd (upd f 24 0) 27 (f 35)) 28 (f 36)) 29 (f 37)) 30 (f 38)) 31 (f 39)) 21 2) 26 1) else if f 41 = 1 then (if f 22 = 1 then (upd (upd (upd (upd (upd (upd (upd (upd (upd (upd (upd f 24 0) 27 (f 35)) 28 (f 36)) 29 (f 37)) 30 (f 38)) 31 (f 39)) 21 2) 26 (f 26)) 22 0) 19 (f 16)) 20 (f 17)) else upd (upd (upd (upd (upd (upd (upd (upd f 24 0) 27 (f 35)) 28 (f 36)) 29 (f 37)) 30 (f 38)) 31 (f 39)) 21 2) 26 (f 26)) else upd (upd (upd (upd (upd (upd (upd (upd f 24 0) 27 (f 35)) 28 (f 36)) 29 (f 37)) 30 (f 38)) 31 (f 39)) 21 2) 26 (f 26)) else if f 21 = 1 then (if f 40 = 1 then (if f 41 = 1 then (if f 22 = 1 then (upd (upd (upd (upd (upd (upd (upd (upd (upd (upd (upd f 24 0) 27 (f 35)) 28 (f 36)) 29 (f 37)) 30 (f 38)) 31 (f 39)) 21 2) 26 1) 22 0) 19 (f 16)) 20 (f 17)) else upd (upd (upd (upd (upd (upd (upd (upd f 24 0) 27 (f 35)) 28 (f 36)) 29 (f 37)) 30 (f 38)) 31 (f 39)) 21 2) 26 1) else upd (upd (upd (upd (upd (upd (upd (upd f 24 0) 27 (f 35)) 28 (f 36)) 29 (f 37)) 30 (f 38)) 31 (f 39)) 21 2) 26 1) else if f 41 = 1 then (if f 22 = 1 then (upd (upd (upd (upd (upd (upd (upd (upd (upd (upd (upd f 24 0) 27 (f 35)) 28 (f 36)) 29 (f 37)) 30 (f 38)) 31 (f 39)) 21 2) 26 (f 26)) 22 0) 19 (f 16)) 20 (f 17)) else upd (upd (upd (upd (upd (upd (upd (upd f 24 0) 27 (f 35)) 28 (f 36)) 29 (f 37)) 30 (f 38)) 31 (f 39)) 21 2) 26 (f 26)) else upd (upd (upd (upd (upd (upd (upd (upd f 24 0) 27 (f 35)) 28 (f 36)) 29 (f 37)) 30 (f 38)) 31 (f 39)) 21 2) 26 (f 26)) else if f 40 = 1 then (if f 41 = 1 then (if f 22 = 1 then (upd (upd (upd (upd (upd (upd (upd (upd (upd (upd (upd f 24 0) 27 (f 35)) 28 (f 36)) 29 (f 37)) 30 (f 38)) 31 (f 39)) 21 (f 21)) 26 1) 22 0) 19 (f 16)) 20 (f 17)) else upd (upd (upd (upd (upd (upd (upd (upd f 24 0) 27 (f 35)) 28 (f 36)) 29 (f 37)) 30 (f 38)) 31 (f 39)) 21 (f 21)) 26 1) else upd (upd (upd (upd (upd (upd (upd (upd f 24 0) 27 (f 35)) 28 (f 36)) 29 (f 37)) 30 (f 38)) 31 (f 39)) 21 (f 21)) 26 1) else if f 41 = 1 then (if f 22 = 1 then (upd (upd (upd (upd (upd (upd (upd (upd (upd (upd (upd f 24 0) 27 (f 35)) 28 (f 36)) 29 (f 37)) 30 (f 38)) 31 (f 39)) 21 (f 21)) 26 (f 26)) 22 0) 19 (f 16)) 20 (f 17)) else upd (upd (upd (upd (upd (upd (upd (upd f 24 0) 27 (f 35)) 28 (f 36)) 29 (f 37)) 30 (f 38)) 31 (f 39)) 21 (f 21)) 26 (f 26)) else upd (upd (upd (upd (upd (upd (upd (upd f 24 0) 27 (f 35)) 28 (f 36)) 29 (f 37)) 30 (f 38)) 31 (f 39)) 21 (f 21)) 26 (f 26)
set_option maxHeartbeats 4000000 in
set_option maxRecDepth 100000 in
theorem c_X7_hear_16 (l : Launch) (G : kG) (f : Nat → Int32) (h0 : Nat) : cG l G yX7_hear cX7_hear 5 none 2 [.ref h0, .int 16, .int 34] ([(h0, .inl (G.2.1, 55, .inl f))]) (qV G (fun u : (Nat → Int32) => u = s_X7_hear_16_f f) (fun u => [(h0, .inl (G.2.1, 55, .inl u))])) := by
  refine kintro (by decide) (Nat.le_of_ble_eq_true rfl) ?_
  intro p e s m args below meth c A ls kx hK hP hD hS hA hl
  have kx : kX p s m args meth c cX7_hear 5 none RX7 := kx
  have hx := kx.1
  have hb := kx.2.1
  have hown := kx.2.2.2.2.1
  have ht := kx.2.2.2.2.2.2
  have hl : lv_has ls 5 [(0, .ref h0), (1, .int 16), (2, .int 34)] := hl
  refine lv_aload_n hx hb dX7_hear_0 rfl (lv_at hl 0 rfl) ?_
  refine lv_iload_n hx hb dX7_hear_1 rfl (lv_at hl 1 rfl) ?_
  refine lv_bipush (v := 8) hx hb dX7_hear_2 (by decide) ?_
  refine lv_iadd hx hb dX7_hear_4 ?_
  refine k_top (y := 24) (by decide +kernel) ?_
  refine lv_iconst (v := 0) hx hb dX7_hear_5 (by decide) ?_
  refine k_iast kx hK hP hD hS 0 rfl 24 rfl (by decide) (by decide) dX7_hear_6 (fun H1 locs1 hP1 hD1 hS1 => ?_)
  have hP2 : va_P G.1 vwCl ([(h0, .inl (G.2.1, 55, .inl (upd f 24 0)))]) H1 := hP1
  have hD3 : va_D A ([(h0, .inl (G.2.1, 55, .inl (upd f 24 0)))]) := hD1
  refine lv_iconst (v := 0) hx hb dX7_hear_7 (by decide) ?_
  refine lv_istore_n (lv' := [(3, .int 0), (0, .ref h0), (1, .int 16), (2, .int 34)]) hx hb dX7_hear_8 rfl hl (by decide) rfl (fun ls4 hl4 => ?_)
  refine lv_iload_n hx hb dX7_hear_9 rfl (lv_at hl4 0 rfl) ?_
  refine lv_iconst (v := 5) hx hb dX7_hear_10 (by decide) ?_
  refine lv_icmp_ge (x := 0) (y := 5) (tgt := 35) hx hb dX7_hear_11 (by decide) (fun (c1 : 5 ≤ 0) => absurd c1 (by decide)) (fun (c1 : ¬ (5 ≤ 0)) => ?_)
  refine lv_aload_n hx hb dX7_hear_14 rfl (lv_at hl4 1 rfl) ?_
  refine lv_iload_n hx hb dX7_hear_15 rfl (lv_at hl4 2 rfl) ?_
  refine lv_bipush (v := 11) hx hb dX7_hear_16 (by decide) ?_
  refine lv_iadd hx hb dX7_hear_18 ?_
  refine k_top (y := 27) (by decide +kernel) ?_
  refine lv_iload_n hx hb dX7_hear_19 rfl (lv_at hl4 0 rfl) ?_
  refine lv_iadd hx hb dX7_hear_20 ?_
  refine k_top (y := 27) (by decide +kernel) ?_
  refine lv_aload_n hx hb dX7_hear_21 rfl (lv_at hl4 1 rfl) ?_
  refine lv_iload_n hx hb dX7_hear_22 rfl (lv_at hl4 3 rfl) ?_
  refine lv_iconst (v := 1) hx hb dX7_hear_23 (by decide) ?_
  refine lv_iadd hx hb dX7_hear_24 ?_
  refine k_top (y := 35) (by decide +kernel) ?_
  refine lv_iload_n hx hb dX7_hear_25 rfl (lv_at hl4 0 rfl) ?_
  refine lv_iadd hx hb dX7_hear_26 ?_
  refine k_top (y := 35) (by decide +kernel) ?_
  refine k_iald (v := (f 35)) kx hK hP2 0 rfl 35 rfl (by decide) (by decide) rfl dX7_hear_27 ?_
  refine k_iast kx hK hP2 hD3 hS1 0 rfl 27 rfl (by decide) (by decide) dX7_hear_28 (fun H5 locs5 hP5 hD5 hS5 => ?_)
  have hP6 : va_P G.1 vwCl ([(h0, .inl (G.2.1, 55, .inl (upd (upd f 24 0) 27 (f 35))))]) H5 := hP5
  have hD7 : va_D A ([(h0, .inl (G.2.1, 55, .inl (upd (upd f 24 0) 27 (f 35))))]) := hD5
  refine lv_iinc (v := 1) (lv' := [(3, .int 1), (0, .ref h0), (1, .int 16), (2, .int 34)]) hx hb dX7_hear_29 hl4 (k := 0) rfl (by decide +kernel) (by decide) rfl (fun ls8 hl8 => ?_)
  refine lv_goto (tgt := 9) hx hb dX7_hear_32 (by decide) ?_
  refine lv_iload_n hx hb dX7_hear_9 rfl (lv_at hl8 0 rfl) ?_
  refine lv_iconst (v := 5) hx hb dX7_hear_10 (by decide) ?_
  refine lv_icmp_ge (x := 1) (y := 5) (tgt := 35) hx hb dX7_hear_11 (by decide) (fun (c2 : 5 ≤ 1) => absurd c2 (by decide)) (fun (c2 : ¬ (5 ≤ 1)) => ?_)
  refine lv_aload_n hx hb dX7_hear_14 rfl (lv_at hl8 1 rfl) ?_
  refine lv_iload_n hx hb dX7_hear_15 rfl (lv_at hl8 2 rfl) ?_
  refine lv_bipush (v := 11) hx hb dX7_hear_16 (by decide) ?_
  refine lv_iadd hx hb dX7_hear_18 ?_
  refine k_top (y := 27) (by decide +kernel) ?_
  refine lv_iload_n hx hb dX7_hear_19 rfl (lv_at hl8 0 rfl) ?_
  refine lv_iadd hx hb dX7_hear_20 ?_
  refine k_top (y := 28) (by decide +kernel) ?_
  refine lv_aload_n hx hb dX7_hear_21 rfl (lv_at hl8 1 rfl) ?_
  refine lv_iload_n hx hb dX7_hear_22 rfl (lv_at hl8 3 rfl) ?_
  refine lv_iconst (v := 1) hx hb dX7_hear_23 (by decide) ?_
  refine lv_iadd hx hb dX7_hear_24 ?_
  refine k_top (y := 35) (by decide +kernel) ?_
  refine lv_iload_n hx hb dX7_hear_25 rfl (lv_at hl8 0 rfl) ?_
  refine lv_iadd hx hb dX7_hear_26 ?_
  refine k_top (y := 36) (by decide +kernel) ?_
  refine k_iald (v := (f 36)) kx hK hP6 0 rfl 36 rfl (by decide) (by decide) rfl dX7_hear_27 ?_
  refine k_iast kx hK hP6 hD7 hS5 0 rfl 28 rfl (by decide) (by decide) dX7_hear_28 (fun H9 locs9 hP9 hD9 hS9 => ?_)
  have hP10 : va_P G.1 vwCl ([(h0, .inl (G.2.1, 55, .inl (upd (upd (upd f 24 0) 27 (f 35)) 28 (f 36))))]) H9 := hP9
  have hD11 : va_D A ([(h0, .inl (G.2.1, 55, .inl (upd (upd (upd f 24 0) 27 (f 35)) 28 (f 36))))]) := hD9
  refine lv_iinc (v := 2) (lv' := [(3, .int 2), (0, .ref h0), (1, .int 16), (2, .int 34)]) hx hb dX7_hear_29 hl8 (k := 0) rfl (by decide +kernel) (by decide) rfl (fun ls12 hl12 => ?_)
  refine lv_goto (tgt := 9) hx hb dX7_hear_32 (by decide) ?_
  refine lv_iload_n hx hb dX7_hear_9 rfl (lv_at hl12 0 rfl) ?_
  refine lv_iconst (v := 5) hx hb dX7_hear_10 (by decide) ?_
  refine lv_icmp_ge (x := 2) (y := 5) (tgt := 35) hx hb dX7_hear_11 (by decide) (fun (c3 : 5 ≤ 2) => absurd c3 (by decide)) (fun (c3 : ¬ (5 ≤ 2)) => ?_)
  refine lv_aload_n hx hb dX7_hear_14 rfl (lv_at hl12 1 rfl) ?_
  refine lv_iload_n hx hb dX7_hear_15 rfl (lv_at hl12 2 rfl) ?_
  refine lv_bipush (v := 11) hx hb dX7_hear_16 (by decide) ?_
  refine lv_iadd hx hb dX7_hear_18 ?_
  refine k_top (y := 27) (by decide +kernel) ?_
  refine lv_iload_n hx hb dX7_hear_19 rfl (lv_at hl12 0 rfl) ?_
  refine lv_iadd hx hb dX7_hear_20 ?_
  refine k_top (y := 29) (by decide +kernel) ?_
  refine lv_aload_n hx hb dX7_hear_21 rfl (lv_at hl12 1 rfl) ?_
  refine lv_iload_n hx hb dX7_hear_22 rfl (lv_at hl12 3 rfl) ?_
  refine lv_iconst (v := 1) hx hb dX7_hear_23 (by decide) ?_
  refine lv_iadd hx hb dX7_hear_24 ?_
  refine k_top (y := 35) (by decide +kernel) ?_
  refine lv_iload_n hx hb dX7_hear_25 rfl (lv_at hl12 0 rfl) ?_
  refine lv_iadd hx hb dX7_hear_26 ?_
  refine k_top (y := 37) (by decide +kernel) ?_
  refine k_iald (v := (f 37)) kx hK hP10 0 rfl 37 rfl (by decide) (by decide) rfl dX7_hear_27 ?_
  refine k_iast kx hK hP10 hD11 hS9 0 rfl 29 rfl (by decide) (by decide) dX7_hear_28 (fun H13 locs13 hP13 hD13 hS13 => ?_)
  have hP14 : va_P G.1 vwCl ([(h0, .inl (G.2.1, 55, .inl (upd (upd (upd (upd f 24 0) 27 (f 35)) 28 (f 36)) 29 (f 37))))]) H13 := hP13
  have hD15 : va_D A ([(h0, .inl (G.2.1, 55, .inl (upd (upd (upd (upd f 24 0) 27 (f 35)) 28 (f 36)) 29 (f 37))))]) := hD13
  refine lv_iinc (v := 3) (lv' := [(3, .int 3), (0, .ref h0), (1, .int 16), (2, .int 34)]) hx hb dX7_hear_29 hl12 (k := 0) rfl (by decide +kernel) (by decide) rfl (fun ls16 hl16 => ?_)
  refine lv_goto (tgt := 9) hx hb dX7_hear_32 (by decide) ?_
  refine lv_iload_n hx hb dX7_hear_9 rfl (lv_at hl16 0 rfl) ?_
  refine lv_iconst (v := 5) hx hb dX7_hear_10 (by decide) ?_
  refine lv_icmp_ge (x := 3) (y := 5) (tgt := 35) hx hb dX7_hear_11 (by decide) (fun (c4 : 5 ≤ 3) => absurd c4 (by decide)) (fun (c4 : ¬ (5 ≤ 3)) => ?_)
  refine lv_aload_n hx hb dX7_hear_14 rfl (lv_at hl16 1 rfl) ?_
  refine lv_iload_n hx hb dX7_hear_15 rfl (lv_at hl16 2 rfl) ?_
  refine lv_bipush (v := 11) hx hb dX7_hear_16 (by decide) ?_
  refine lv_iadd hx hb dX7_hear_18 ?_
  refine k_top (y := 27) (by decide +kernel) ?_
  refine lv_iload_n hx hb dX7_hear_19 rfl (lv_at hl16 0 rfl) ?_
  refine lv_iadd hx hb dX7_hear_20 ?_
  refine k_top (y := 30) (by decide +kernel) ?_
  refine lv_aload_n hx hb dX7_hear_21 rfl (lv_at hl16 1 rfl) ?_
  refine lv_iload_n hx hb dX7_hear_22 rfl (lv_at hl16 3 rfl) ?_
  refine lv_iconst (v := 1) hx hb dX7_hear_23 (by decide) ?_
  refine lv_iadd hx hb dX7_hear_24 ?_
  refine k_top (y := 35) (by decide +kernel) ?_
  refine lv_iload_n hx hb dX7_hear_25 rfl (lv_at hl16 0 rfl) ?_
  refine lv_iadd hx hb dX7_hear_26 ?_
  refine k_top (y := 38) (by decide +kernel) ?_
  refine k_iald (v := (f 38)) kx hK hP14 0 rfl 38 rfl (by decide) (by decide) rfl dX7_hear_27 ?_
  refine k_iast kx hK hP14 hD15 hS13 0 rfl 30 rfl (by decide) (by decide) dX7_hear_28 (fun H17 locs17 hP17 hD17 hS17 => ?_)
  have hP18 : va_P G.1 vwCl ([(h0, .inl (G.2.1, 55, .inl (upd (upd (upd (upd (upd f 24 0) 27 (f 35)) 28 (f 36)) 29 (f 37)) 30 (f 38))))]) H17 := hP17
  have hD19 : va_D A ([(h0, .inl (G.2.1, 55, .inl (upd (upd (upd (upd (upd f 24 0) 27 (f 35)) 28 (f 36)) 29 (f 37)) 30 (f 38))))]) := hD17
  refine lv_iinc (v := 4) (lv' := [(3, .int 4), (0, .ref h0), (1, .int 16), (2, .int 34)]) hx hb dX7_hear_29 hl16 (k := 0) rfl (by decide +kernel) (by decide) rfl (fun ls20 hl20 => ?_)
  refine lv_goto (tgt := 9) hx hb dX7_hear_32 (by decide) ?_
  refine lv_iload_n hx hb dX7_hear_9 rfl (lv_at hl20 0 rfl) ?_
  refine lv_iconst (v := 5) hx hb dX7_hear_10 (by decide) ?_
  refine lv_icmp_ge (x := 4) (y := 5) (tgt := 35) hx hb dX7_hear_11 (by decide) (fun (c5 : 5 ≤ 4) => absurd c5 (by decide)) (fun (c5 : ¬ (5 ≤ 4)) => ?_)
  refine lv_aload_n hx hb dX7_hear_14 rfl (lv_at hl20 1 rfl) ?_
  refine lv_iload_n hx hb dX7_hear_15 rfl (lv_at hl20 2 rfl) ?_
  refine lv_bipush (v := 11) hx hb dX7_hear_16 (by decide) ?_
  refine lv_iadd hx hb dX7_hear_18 ?_
  refine k_top (y := 27) (by decide +kernel) ?_
  refine lv_iload_n hx hb dX7_hear_19 rfl (lv_at hl20 0 rfl) ?_
  refine lv_iadd hx hb dX7_hear_20 ?_
  refine k_top (y := 31) (by decide +kernel) ?_
  refine lv_aload_n hx hb dX7_hear_21 rfl (lv_at hl20 1 rfl) ?_
  refine lv_iload_n hx hb dX7_hear_22 rfl (lv_at hl20 3 rfl) ?_
  refine lv_iconst (v := 1) hx hb dX7_hear_23 (by decide) ?_
  refine lv_iadd hx hb dX7_hear_24 ?_
  refine k_top (y := 35) (by decide +kernel) ?_
  refine lv_iload_n hx hb dX7_hear_25 rfl (lv_at hl20 0 rfl) ?_
  refine lv_iadd hx hb dX7_hear_26 ?_
  refine k_top (y := 39) (by decide +kernel) ?_
  refine k_iald (v := (f 39)) kx hK hP18 0 rfl 39 rfl (by decide) (by decide) rfl dX7_hear_27 ?_
  refine k_iast kx hK hP18 hD19 hS17 0 rfl 31 rfl (by decide) (by decide) dX7_hear_28 (fun H21 locs21 hP21 hD21 hS21 => ?_)
  have hP22 : va_P G.1 vwCl ([(h0, .inl (G.2.1, 55, .inl (upd (upd (upd (upd (upd (upd f 24 0) 27 (f 35)) 28 (f 36)) 29 (f 37)) 30 (f 38)) 31 (f 39))))]) H21 := hP21
  have hD23 : va_D A ([(h0, .inl (G.2.1, 55, .inl (upd (upd (upd (upd (upd (upd f 24 0) 27 (f 35)) 28 (f 36)) 29 (f 37)) 30 (f 38)) 31 (f 39))))]) := hD21
  refine lv_iinc (v := 5) (lv' := [(3, .int 5), (0, .ref h0), (1, .int 16), (2, .int 34)]) hx hb dX7_hear_29 hl20 (k := 0) rfl (by decide +kernel) (by decide) rfl (fun ls24 hl24 => ?_)
  refine lv_goto (tgt := 9) hx hb dX7_hear_32 (by decide) ?_
  refine lv_iload_n hx hb dX7_hear_9 rfl (lv_at hl24 0 rfl) ?_
  refine lv_iconst (v := 5) hx hb dX7_hear_10 (by decide) ?_
  refine lv_icmp_ge (x := 5) (y := 5) (tgt := 35) hx hb dX7_hear_11 (by decide) (fun (c6 : 5 ≤ 5) => ?_) (fun (c6 : ¬ (5 ≤ 5)) => absurd (by decide) c6)
  refine lv_aload_n hx hb dX7_hear_35 rfl (lv_at hl24 1 rfl) ?_
  refine lv_iload_n hx hb dX7_hear_36 rfl (lv_at hl24 3 rfl) ?_
  refine lv_iconst (v := 1) hx hb dX7_hear_37 (by decide) ?_
  refine lv_iadd hx hb dX7_hear_38 ?_
  refine k_top (y := 35) (by decide +kernel) ?_
  refine k_iald (v := (f 35)) kx hK hP22 0 rfl 35 rfl (by decide) (by decide) rfl dX7_hear_39 ?_
  refine lv_istore_n (lv' := [(3, .int (f 35)), (0, .ref h0), (1, .int 16), (2, .int 34)]) hx hb dX7_hear_40 rfl hl24 (by decide) rfl (fun ls25 hl25 => ?_)
  refine lv_aload_n hx hb dX7_hear_41 rfl (lv_at hl25 1 rfl) ?_
  refine lv_iload_n hx hb dX7_hear_42 rfl (lv_at hl25 2 rfl) ?_
  refine lv_iconst (v := 5) hx hb dX7_hear_43 (by decide) ?_
  refine lv_iadd hx hb dX7_hear_44 ?_
  refine k_top (y := 21) (by decide +kernel) ?_
  refine k_iald (v := (f 21)) kx hK hP22 0 rfl 21 rfl (by decide) (by decide) rfl dX7_hear_45 ?_
  refine lv_istore (lv' := [(4, .int (f 21)), (3, .int (f 35)), (0, .ref h0), (1, .int 16), (2, .int 34)]) hx hb dX7_hear_46 hl25 (by decide) rfl (fun ls26 hl26 => ?_)
  refine lv_iload_n hx hb dX7_hear_48 rfl (lv_at hl26 1 rfl) ?_
  refine lv_if_ne (x := f 35) (tgt := 75) hx hb dX7_hear_49 (by decide) (fun (c7 : ¬ (f 35 = 0)) => ?_) (fun (c7 : f 35 = 0) => ?_)
  · skip
    refine lv_iload_n hx hb dX7_hear_75 rfl (lv_at hl26 1 rfl) ?_
    refine lv_iconst (v := 1) hx hb dX7_hear_76 (by decide) ?_
    refine lv_icmp_ne (x := f 35) (y := 1) (tgt := 89) hx hb dX7_hear_77 (by decide) (fun (c8 : ¬ (f 35 = 1)) => ?_) (fun (c8 : f 35 = 1) => ?_)
    · skip
      refine lv_aload_n hx hb dX7_hear_89 rfl (lv_at hl26 2 rfl) ?_
      refine lv_iload_n hx hb dX7_hear_90 rfl (lv_at hl26 3 rfl) ?_
      refine lv_iconst (v := 5) hx hb dX7_hear_91 (by decide) ?_
      refine lv_iadd hx hb dX7_hear_92 ?_
      refine k_top (y := 21) (by decide +kernel) ?_
      refine lv_iload hx hb dX7_hear_93 (lv_at hl26 0 rfl) ?_
      refine lv_iconst (v := 1) hx hb dX7_hear_95 (by decide) ?_
      refine lv_icmp_ne (x := f 21) (y := 1) (tgt := 103) hx hb dX7_hear_96 (by decide) (fun (c9 : ¬ (f 21 = 1)) => ?_) (fun (c9 : f 21 = 1) => ?_)
      · skip
        refine lv_iload hx hb dX7_hear_103 (lv_at hl26 0 rfl) ?_
        refine k_iast kx hK hP22 hD23 hS21 0 rfl 21 rfl (by decide) (by decide) dX7_hear_105 (fun H27 locs27 hP27 hD27 hS27 => ?_)
        have hP28 : va_P G.1 vwCl ([(h0, .inl (G.2.1, 55, .inl (upd (upd (upd (upd (upd (upd (upd f 24 0) 27 (f 35)) 28 (f 36)) 29 (f 37)) 30 (f 38)) 31 (f 39)) 21 (f 21))))]) H27 := hP27
        have hD29 : va_D A ([(h0, .inl (G.2.1, 55, .inl (upd (upd (upd (upd (upd (upd (upd f 24 0) 27 (f 35)) 28 (f 36)) 29 (f 37)) 30 (f 38)) 31 (f 39)) 21 (f 21))))]) := hD27
        refine lv_aload_n hx hb dX7_hear_106 rfl (lv_at hl26 2 rfl) ?_
        refine lv_iload_n hx hb dX7_hear_107 rfl (lv_at hl26 3 rfl) ?_
        refine lv_bipush (v := 10) hx hb dX7_hear_108 (by decide) ?_
        refine lv_iadd hx hb dX7_hear_110 ?_
        refine k_top (y := 26) (by decide +kernel) ?_
        refine lv_aload_n hx hb dX7_hear_111 rfl (lv_at hl26 2 rfl) ?_
        refine lv_iload_n hx hb dX7_hear_112 rfl (lv_at hl26 4 rfl) ?_
        refine lv_bipush (v := 6) hx hb dX7_hear_113 (by decide) ?_
        refine lv_iadd hx hb dX7_hear_115 ?_
        refine k_top (y := 40) (by decide +kernel) ?_
        refine k_iald (v := (f 40)) kx hK hP28 0 rfl 40 rfl (by decide) (by decide) rfl dX7_hear_116 ?_
        refine lv_iconst (v := 1) hx hb dX7_hear_117 (by decide) ?_
        refine lv_icmp_ne (x := f 40) (y := 1) (tgt := 125) hx hb dX7_hear_118 (by decide) (fun (c10 : ¬ (f 40 = 1)) => ?_) (fun (c10 : f 40 = 1) => ?_)
        · skip
          refine lv_aload_n hx hb dX7_hear_125 rfl (lv_at hl26 2 rfl) ?_
          refine lv_iload_n hx hb dX7_hear_126 rfl (lv_at hl26 3 rfl) ?_
          refine lv_bipush (v := 10) hx hb dX7_hear_127 (by decide) ?_
          refine lv_iadd hx hb dX7_hear_129 ?_
          refine k_top (y := 26) (by decide +kernel) ?_
          refine k_iald (v := (f 26)) kx hK hP28 0 rfl 26 rfl (by decide) (by decide) rfl dX7_hear_130 ?_
          refine k_iast kx hK hP28 hD29 hS27 0 rfl 26 rfl (by decide) (by decide) dX7_hear_131 (fun H30 locs30 hP30 hD30 hS30 => ?_)
          have hP31 : va_P G.1 vwCl ([(h0, .inl (G.2.1, 55, .inl (upd (upd (upd (upd (upd (upd (upd (upd f 24 0) 27 (f 35)) 28 (f 36)) 29 (f 37)) 30 (f 38)) 31 (f 39)) 21 (f 21)) 26 (f 26))))]) H30 := hP30
          have hD32 : va_D A ([(h0, .inl (G.2.1, 55, .inl (upd (upd (upd (upd (upd (upd (upd (upd f 24 0) 27 (f 35)) 28 (f 36)) 29 (f 37)) 30 (f 38)) 31 (f 39)) 21 (f 21)) 26 (f 26))))]) := hD30
          refine lv_aload_n hx hb dX7_hear_132 rfl (lv_at hl26 2 rfl) ?_
          refine lv_iload_n hx hb dX7_hear_133 rfl (lv_at hl26 4 rfl) ?_
          refine lv_bipush (v := 7) hx hb dX7_hear_134 (by decide) ?_
          refine lv_iadd hx hb dX7_hear_136 ?_
          refine k_top (y := 41) (by decide +kernel) ?_
          refine k_iald (v := (f 41)) kx hK hP31 0 rfl 41 rfl (by decide) (by decide) rfl dX7_hear_137 ?_
          refine lv_iconst (v := 1) hx hb dX7_hear_138 (by decide) ?_
          refine lv_icmp_ne (x := f 41) (y := 1) (tgt := 164) hx hb dX7_hear_139 (by decide) (fun (c11 : ¬ (f 41 = 1)) => ?_) (fun (c11 : f 41 = 1) => ?_)
          · skip
            have e0 : s_X7_hear_16_f f = upd (upd (upd (upd (upd (upd (upd (upd f 24 0) 27 (f 35)) 28 (f 36)) 29 (f 37)) 30 (f 38)) 31 (f 39)) 21 (f 21)) 26 (f 26) := by rw [s_X7_hear_16_f, if_neg c7, if_neg c8, if_neg c9, if_neg c10, if_neg c11]
            exact k_vret kx hK hP31 hD32 hS30 (u := upd (upd (upd (upd (upd (upd (upd (upd f 24 0) 27 (f 35)) 28 (f 36)) 29 (f 37)) 30 (f 38)) 31 (f 39)) 21 (f 21)) 26 (f 26)) rfl e0.symm dX7_hear_164
          · skip
            refine lv_aload_n hx hb dX7_hear_142 rfl (lv_at hl26 2 rfl) ?_
            refine lv_iload_n hx hb dX7_hear_143 rfl (lv_at hl26 3 rfl) ?_
            refine lv_bipush (v := 6) hx hb dX7_hear_144 (by decide) ?_
            refine lv_iadd hx hb dX7_hear_146 ?_
            refine k_top (y := 22) (by decide +kernel) ?_
            refine k_iald (v := (f 22)) kx hK hP31 0 rfl 22 rfl (by decide) (by decide) rfl dX7_hear_147 ?_
            refine lv_iconst (v := 1) hx hb dX7_hear_148 (by decide) ?_
            refine lv_icmp_ne (x := f 22) (y := 1) (tgt := 164) hx hb dX7_hear_149 (by decide) (fun (c12 : ¬ (f 22 = 1)) => ?_) (fun (c12 : f 22 = 1) => ?_)
            · skip
              have e0 : s_X7_hear_16_f f = upd (upd (upd (upd (upd (upd (upd (upd f 24 0) 27 (f 35)) 28 (f 36)) 29 (f 37)) 30 (f 38)) 31 (f 39)) 21 (f 21)) 26 (f 26) := by rw [s_X7_hear_16_f, if_neg c7, if_neg c8, if_neg c9, if_neg c10, if_pos c11, if_neg c12]
              exact k_vret kx hK hP31 hD32 hS30 (u := upd (upd (upd (upd (upd (upd (upd (upd f 24 0) 27 (f 35)) 28 (f 36)) 29 (f 37)) 30 (f 38)) 31 (f 39)) 21 (f 21)) 26 (f 26)) rfl e0.symm dX7_hear_164
            · skip
              refine lv_aload_n hx hb dX7_hear_152 rfl (lv_at hl26 2 rfl) ?_
              refine lv_iload_n hx hb dX7_hear_153 rfl (lv_at hl26 3 rfl) ?_
              refine lv_bipush (v := 6) hx hb dX7_hear_154 (by decide) ?_
              refine lv_iadd hx hb dX7_hear_156 ?_
              refine k_top (y := 22) (by decide +kernel) ?_
              refine lv_iconst (v := 0) hx hb dX7_hear_157 (by decide) ?_
              refine k_iast kx hK hP31 hD32 hS30 0 rfl 22 rfl (by decide) (by decide) dX7_hear_158 (fun H33 locs33 hP33 hD33 hS33 => ?_)
              have hP34 : va_P G.1 vwCl ([(h0, .inl (G.2.1, 55, .inl (upd (upd (upd (upd (upd (upd (upd (upd (upd f 24 0) 27 (f 35)) 28 (f 36)) 29 (f 37)) 30 (f 38)) 31 (f 39)) 21 (f 21)) 26 (f 26)) 22 0)))]) H33 := hP33
              have hD35 : va_D A ([(h0, .inl (G.2.1, 55, .inl (upd (upd (upd (upd (upd (upd (upd (upd (upd f 24 0) 27 (f 35)) 28 (f 36)) 29 (f 37)) 30 (f 38)) 31 (f 39)) 21 (f 21)) 26 (f 26)) 22 0)))]) := hD33
              refine lv_aload_n hx hb dX7_hear_159 rfl (lv_at hl26 2 rfl) ?_
              refine lv_iload_n hx hb dX7_hear_160 rfl (lv_at hl26 3 rfl) ?_
              refine k_callv (kRunS (As := [.ref h0, .int 16]) (rest := []) kx (c_X7_useTold_16 l G (upd (upd (upd (upd (upd (upd (upd (upd (upd f 24 0) 27 (f 35)) 28 (f 36)) 29 (f 37)) 30 (f 38)) 31 (f 39)) 21 (f 21)) 26 (f 26)) 22 0) h0) q_759 q_757 q_36 q_758 nX7_useTold ⟨Nat.le_of_ble_eq_true rfl, Nat.le_of_ble_eq_true rfl⟩ hK hP34 hD35 (kCtx_all _) rfl hl26.1 (Nat.le_of_ble_eq_true rfl) dX7_hear_161 ⟨Nat.zero_le _, Nat.zero_le _⟩) hP34 hD35 hS33 hA (kCtx_all _) (fun _ => rfl) (fun _ H36 locs36 hw hP36 hD36 hS36 => ?_)
              have hP37 : va_P G.1 vwCl ([(h0, .inl (G.2.1, 55, .inl (upd (upd (upd (upd (upd (upd (upd (upd (upd (upd (upd f 24 0) 27 (f 35)) 28 (f 36)) 29 (f 37)) 30 (f 38)) 31 (f 39)) 21 (f 21)) 26 (f 26)) 22 0) 19 (f 16)) 20 (f 17))))]) H36 := hP36
              have hD38 : va_D A ([(h0, .inl (G.2.1, 55, .inl (upd (upd (upd (upd (upd (upd (upd (upd (upd (upd (upd f 24 0) 27 (f 35)) 28 (f 36)) 29 (f 37)) 30 (f 38)) 31 (f 39)) 21 (f 21)) 26 (f 26)) 22 0) 19 (f 16)) 20 (f 17))))]) := hD36
              have e0 : s_X7_hear_16_f f = upd (upd (upd (upd (upd (upd (upd (upd (upd (upd (upd f 24 0) 27 (f 35)) 28 (f 36)) 29 (f 37)) 30 (f 38)) 31 (f 39)) 21 (f 21)) 26 (f 26)) 22 0) 19 (f 16)) 20 (f 17) := by rw [s_X7_hear_16_f, if_neg c7, if_neg c8, if_neg c9, if_neg c10, if_pos c11, if_pos c12]
              exact k_vret kx hK hP37 hD38 hS36 (u := upd (upd (upd (upd (upd (upd (upd (upd (upd (upd (upd f 24 0) 27 (f 35)) 28 (f 36)) 29 (f 37)) 30 (f 38)) 31 (f 39)) 21 (f 21)) 26 (f 26)) 22 0) 19 (f 16)) 20 (f 17)) rfl e0.symm dX7_hear_164
        · skip
          refine lv_iconst (v := 1) hx hb dX7_hear_121 (by decide) ?_
          refine lv_goto (tgt := 131) hx hb dX7_hear_122 (by decide) ?_
          refine k_iast kx hK hP28 hD29 hS27 0 rfl 26 rfl (by decide) (by decide) dX7_hear_131 (fun H39 locs39 hP39 hD39 hS39 => ?_)
          have hP40 : va_P G.1 vwCl ([(h0, .inl (G.2.1, 55, .inl (upd (upd (upd (upd (upd (upd (upd (upd f 24 0) 27 (f 35)) 28 (f 36)) 29 (f 37)) 30 (f 38)) 31 (f 39)) 21 (f 21)) 26 1)))]) H39 := hP39
          have hD41 : va_D A ([(h0, .inl (G.2.1, 55, .inl (upd (upd (upd (upd (upd (upd (upd (upd f 24 0) 27 (f 35)) 28 (f 36)) 29 (f 37)) 30 (f 38)) 31 (f 39)) 21 (f 21)) 26 1)))]) := hD39
          refine lv_aload_n hx hb dX7_hear_132 rfl (lv_at hl26 2 rfl) ?_
          refine lv_iload_n hx hb dX7_hear_133 rfl (lv_at hl26 4 rfl) ?_
          refine lv_bipush (v := 7) hx hb dX7_hear_134 (by decide) ?_
          refine lv_iadd hx hb dX7_hear_136 ?_
          refine k_top (y := 41) (by decide +kernel) ?_
          refine k_iald (v := (f 41)) kx hK hP40 0 rfl 41 rfl (by decide) (by decide) rfl dX7_hear_137 ?_
          refine lv_iconst (v := 1) hx hb dX7_hear_138 (by decide) ?_
          refine lv_icmp_ne (x := f 41) (y := 1) (tgt := 164) hx hb dX7_hear_139 (by decide) (fun (c14 : ¬ (f 41 = 1)) => ?_) (fun (c14 : f 41 = 1) => ?_)
          · skip
            have e0 : s_X7_hear_16_f f = upd (upd (upd (upd (upd (upd (upd (upd f 24 0) 27 (f 35)) 28 (f 36)) 29 (f 37)) 30 (f 38)) 31 (f 39)) 21 (f 21)) 26 1 := by rw [s_X7_hear_16_f, if_neg c7, if_neg c8, if_neg c9, if_pos c10, if_neg c14]
            exact k_vret kx hK hP40 hD41 hS39 (u := upd (upd (upd (upd (upd (upd (upd (upd f 24 0) 27 (f 35)) 28 (f 36)) 29 (f 37)) 30 (f 38)) 31 (f 39)) 21 (f 21)) 26 1) rfl e0.symm dX7_hear_164
          · skip
            refine lv_aload_n hx hb dX7_hear_142 rfl (lv_at hl26 2 rfl) ?_
            refine lv_iload_n hx hb dX7_hear_143 rfl (lv_at hl26 3 rfl) ?_
            refine lv_bipush (v := 6) hx hb dX7_hear_144 (by decide) ?_
            refine lv_iadd hx hb dX7_hear_146 ?_
            refine k_top (y := 22) (by decide +kernel) ?_
            refine k_iald (v := (f 22)) kx hK hP40 0 rfl 22 rfl (by decide) (by decide) rfl dX7_hear_147 ?_
            refine lv_iconst (v := 1) hx hb dX7_hear_148 (by decide) ?_
            refine lv_icmp_ne (x := f 22) (y := 1) (tgt := 164) hx hb dX7_hear_149 (by decide) (fun (c15 : ¬ (f 22 = 1)) => ?_) (fun (c15 : f 22 = 1) => ?_)
            · skip
              have e0 : s_X7_hear_16_f f = upd (upd (upd (upd (upd (upd (upd (upd f 24 0) 27 (f 35)) 28 (f 36)) 29 (f 37)) 30 (f 38)) 31 (f 39)) 21 (f 21)) 26 1 := by rw [s_X7_hear_16_f, if_neg c7, if_neg c8, if_neg c9, if_pos c10, if_pos c14, if_neg c15]
              exact k_vret kx hK hP40 hD41 hS39 (u := upd (upd (upd (upd (upd (upd (upd (upd f 24 0) 27 (f 35)) 28 (f 36)) 29 (f 37)) 30 (f 38)) 31 (f 39)) 21 (f 21)) 26 1) rfl e0.symm dX7_hear_164
            · skip
              refine lv_aload_n hx hb dX7_hear_152 rfl (lv_at hl26 2 rfl) ?_
              refine lv_iload_n hx hb dX7_hear_153 rfl (lv_at hl26 3 rfl) ?_
              refine lv_bipush (v := 6) hx hb dX7_hear_154 (by decide) ?_
              refine lv_iadd hx hb dX7_hear_156 ?_
              refine k_top (y := 22) (by decide +kernel) ?_
              refine lv_iconst (v := 0) hx hb dX7_hear_157 (by decide) ?_
              refine k_iast kx hK hP40 hD41 hS39 0 rfl 22 rfl (by decide) (by decide) dX7_hear_158 (fun H42 locs42 hP42 hD42 hS42 => ?_)
              have hP43 : va_P G.1 vwCl ([(h0, .inl (G.2.1, 55, .inl (upd (upd (upd (upd (upd (upd (upd (upd (upd f 24 0) 27 (f 35)) 28 (f 36)) 29 (f 37)) 30 (f 38)) 31 (f 39)) 21 (f 21)) 26 1) 22 0)))]) H42 := hP42
              have hD44 : va_D A ([(h0, .inl (G.2.1, 55, .inl (upd (upd (upd (upd (upd (upd (upd (upd (upd f 24 0) 27 (f 35)) 28 (f 36)) 29 (f 37)) 30 (f 38)) 31 (f 39)) 21 (f 21)) 26 1) 22 0)))]) := hD42
              refine lv_aload_n hx hb dX7_hear_159 rfl (lv_at hl26 2 rfl) ?_
              refine lv_iload_n hx hb dX7_hear_160 rfl (lv_at hl26 3 rfl) ?_
              refine k_callv (kRunS (As := [.ref h0, .int 16]) (rest := []) kx (c_X7_useTold_16 l G (upd (upd (upd (upd (upd (upd (upd (upd (upd f 24 0) 27 (f 35)) 28 (f 36)) 29 (f 37)) 30 (f 38)) 31 (f 39)) 21 (f 21)) 26 1) 22 0) h0) q_759 q_757 q_36 q_758 nX7_useTold ⟨Nat.le_of_ble_eq_true rfl, Nat.le_of_ble_eq_true rfl⟩ hK hP43 hD44 (kCtx_all _) rfl hl26.1 (Nat.le_of_ble_eq_true rfl) dX7_hear_161 ⟨Nat.zero_le _, Nat.zero_le _⟩) hP43 hD44 hS42 hA (kCtx_all _) (fun _ => rfl) (fun _ H45 locs45 hw hP45 hD45 hS45 => ?_)
              have hP46 : va_P G.1 vwCl ([(h0, .inl (G.2.1, 55, .inl (upd (upd (upd (upd (upd (upd (upd (upd (upd (upd (upd f 24 0) 27 (f 35)) 28 (f 36)) 29 (f 37)) 30 (f 38)) 31 (f 39)) 21 (f 21)) 26 1) 22 0) 19 (f 16)) 20 (f 17))))]) H45 := hP45
              have hD47 : va_D A ([(h0, .inl (G.2.1, 55, .inl (upd (upd (upd (upd (upd (upd (upd (upd (upd (upd (upd f 24 0) 27 (f 35)) 28 (f 36)) 29 (f 37)) 30 (f 38)) 31 (f 39)) 21 (f 21)) 26 1) 22 0) 19 (f 16)) 20 (f 17))))]) := hD45
              have e0 : s_X7_hear_16_f f = upd (upd (upd (upd (upd (upd (upd (upd (upd (upd (upd f 24 0) 27 (f 35)) 28 (f 36)) 29 (f 37)) 30 (f 38)) 31 (f 39)) 21 (f 21)) 26 1) 22 0) 19 (f 16)) 20 (f 17) := by rw [s_X7_hear_16_f, if_neg c7, if_neg c8, if_neg c9, if_pos c10, if_pos c14, if_pos c15]
              exact k_vret kx hK hP46 hD47 hS45 (u := upd (upd (upd (upd (upd (upd (upd (upd (upd (upd (upd f 24 0) 27 (f 35)) 28 (f 36)) 29 (f 37)) 30 (f 38)) 31 (f 39)) 21 (f 21)) 26 1) 22 0) 19 (f 16)) 20 (f 17)) rfl e0.symm dX7_hear_164
      · skip
        refine lv_iconst (v := 2) hx hb dX7_hear_99 (by decide) ?_
        refine lv_goto (tgt := 105) hx hb dX7_hear_100 (by decide) ?_
        refine k_iast kx hK hP22 hD23 hS21 0 rfl 21 rfl (by decide) (by decide) dX7_hear_105 (fun H48 locs48 hP48 hD48 hS48 => ?_)
        have hP49 : va_P G.1 vwCl ([(h0, .inl (G.2.1, 55, .inl (upd (upd (upd (upd (upd (upd (upd f 24 0) 27 (f 35)) 28 (f 36)) 29 (f 37)) 30 (f 38)) 31 (f 39)) 21 2)))]) H48 := hP48
        have hD50 : va_D A ([(h0, .inl (G.2.1, 55, .inl (upd (upd (upd (upd (upd (upd (upd f 24 0) 27 (f 35)) 28 (f 36)) 29 (f 37)) 30 (f 38)) 31 (f 39)) 21 2)))]) := hD48
        refine lv_aload_n hx hb dX7_hear_106 rfl (lv_at hl26 2 rfl) ?_
        refine lv_iload_n hx hb dX7_hear_107 rfl (lv_at hl26 3 rfl) ?_
        refine lv_bipush (v := 10) hx hb dX7_hear_108 (by decide) ?_
        refine lv_iadd hx hb dX7_hear_110 ?_
        refine k_top (y := 26) (by decide +kernel) ?_
        refine lv_aload_n hx hb dX7_hear_111 rfl (lv_at hl26 2 rfl) ?_
        refine lv_iload_n hx hb dX7_hear_112 rfl (lv_at hl26 4 rfl) ?_
        refine lv_bipush (v := 6) hx hb dX7_hear_113 (by decide) ?_
        refine lv_iadd hx hb dX7_hear_115 ?_
        refine k_top (y := 40) (by decide +kernel) ?_
        refine k_iald (v := (f 40)) kx hK hP49 0 rfl 40 rfl (by decide) (by decide) rfl dX7_hear_116 ?_
        refine lv_iconst (v := 1) hx hb dX7_hear_117 (by decide) ?_
        refine lv_icmp_ne (x := f 40) (y := 1) (tgt := 125) hx hb dX7_hear_118 (by decide) (fun (c17 : ¬ (f 40 = 1)) => ?_) (fun (c17 : f 40 = 1) => ?_)
        · skip
          refine lv_aload_n hx hb dX7_hear_125 rfl (lv_at hl26 2 rfl) ?_
          refine lv_iload_n hx hb dX7_hear_126 rfl (lv_at hl26 3 rfl) ?_
          refine lv_bipush (v := 10) hx hb dX7_hear_127 (by decide) ?_
          refine lv_iadd hx hb dX7_hear_129 ?_
          refine k_top (y := 26) (by decide +kernel) ?_
          refine k_iald (v := (f 26)) kx hK hP49 0 rfl 26 rfl (by decide) (by decide) rfl dX7_hear_130 ?_
          refine k_iast kx hK hP49 hD50 hS48 0 rfl 26 rfl (by decide) (by decide) dX7_hear_131 (fun H51 locs51 hP51 hD51 hS51 => ?_)
          have hP52 : va_P G.1 vwCl ([(h0, .inl (G.2.1, 55, .inl (upd (upd (upd (upd (upd (upd (upd (upd f 24 0) 27 (f 35)) 28 (f 36)) 29 (f 37)) 30 (f 38)) 31 (f 39)) 21 2) 26 (f 26))))]) H51 := hP51
          have hD53 : va_D A ([(h0, .inl (G.2.1, 55, .inl (upd (upd (upd (upd (upd (upd (upd (upd f 24 0) 27 (f 35)) 28 (f 36)) 29 (f 37)) 30 (f 38)) 31 (f 39)) 21 2) 26 (f 26))))]) := hD51
          refine lv_aload_n hx hb dX7_hear_132 rfl (lv_at hl26 2 rfl) ?_
          refine lv_iload_n hx hb dX7_hear_133 rfl (lv_at hl26 4 rfl) ?_
          refine lv_bipush (v := 7) hx hb dX7_hear_134 (by decide) ?_
          refine lv_iadd hx hb dX7_hear_136 ?_
          refine k_top (y := 41) (by decide +kernel) ?_
          refine k_iald (v := (f 41)) kx hK hP52 0 rfl 41 rfl (by decide) (by decide) rfl dX7_hear_137 ?_
          refine lv_iconst (v := 1) hx hb dX7_hear_138 (by decide) ?_
          refine lv_icmp_ne (x := f 41) (y := 1) (tgt := 164) hx hb dX7_hear_139 (by decide) (fun (c18 : ¬ (f 41 = 1)) => ?_) (fun (c18 : f 41 = 1) => ?_)
          · skip
            have e0 : s_X7_hear_16_f f = upd (upd (upd (upd (upd (upd (upd (upd f 24 0) 27 (f 35)) 28 (f 36)) 29 (f 37)) 30 (f 38)) 31 (f 39)) 21 2) 26 (f 26) := by rw [s_X7_hear_16_f, if_neg c7, if_neg c8, if_pos c9, if_neg c17, if_neg c18]
            exact k_vret kx hK hP52 hD53 hS51 (u := upd (upd (upd (upd (upd (upd (upd (upd f 24 0) 27 (f 35)) 28 (f 36)) 29 (f 37)) 30 (f 38)) 31 (f 39)) 21 2) 26 (f 26)) rfl e0.symm dX7_hear_164
          · skip
            refine lv_aload_n hx hb dX7_hear_142 rfl (lv_at hl26 2 rfl) ?_
            refine lv_iload_n hx hb dX7_hear_143 rfl (lv_at hl26 3 rfl) ?_
            refine lv_bipush (v := 6) hx hb dX7_hear_144 (by decide) ?_
            refine lv_iadd hx hb dX7_hear_146 ?_
            refine k_top (y := 22) (by decide +kernel) ?_
            refine k_iald (v := (f 22)) kx hK hP52 0 rfl 22 rfl (by decide) (by decide) rfl dX7_hear_147 ?_
            refine lv_iconst (v := 1) hx hb dX7_hear_148 (by decide) ?_
            refine lv_icmp_ne (x := f 22) (y := 1) (tgt := 164) hx hb dX7_hear_149 (by decide) (fun (c19 : ¬ (f 22 = 1)) => ?_) (fun (c19 : f 22 = 1) => ?_)
            · skip
              have e0 : s_X7_hear_16_f f = upd (upd (upd (upd (upd (upd (upd (upd f 24 0) 27 (f 35)) 28 (f 36)) 29 (f 37)) 30 (f 38)) 31 (f 39)) 21 2) 26 (f 26) := by rw [s_X7_hear_16_f, if_neg c7, if_neg c8, if_pos c9, if_neg c17, if_pos c18, if_neg c19]
              exact k_vret kx hK hP52 hD53 hS51 (u := upd (upd (upd (upd (upd (upd (upd (upd f 24 0) 27 (f 35)) 28 (f 36)) 29 (f 37)) 30 (f 38)) 31 (f 39)) 21 2) 26 (f 26)) rfl e0.symm dX7_hear_164
            · skip
              refine lv_aload_n hx hb dX7_hear_152 rfl (lv_at hl26 2 rfl) ?_
              refine lv_iload_n hx hb dX7_hear_153 rfl (lv_at hl26 3 rfl) ?_
              refine lv_bipush (v := 6) hx hb dX7_hear_154 (by decide) ?_
              refine lv_iadd hx hb dX7_hear_156 ?_
              refine k_top (y := 22) (by decide +kernel) ?_
              refine lv_iconst (v := 0) hx hb dX7_hear_157 (by decide) ?_
              refine k_iast kx hK hP52 hD53 hS51 0 rfl 22 rfl (by decide) (by decide) dX7_hear_158 (fun H54 locs54 hP54 hD54 hS54 => ?_)
              have hP55 : va_P G.1 vwCl ([(h0, .inl (G.2.1, 55, .inl (upd (upd (upd (upd (upd (upd (upd (upd (upd f 24 0) 27 (f 35)) 28 (f 36)) 29 (f 37)) 30 (f 38)) 31 (f 39)) 21 2) 26 (f 26)) 22 0)))]) H54 := hP54
              have hD56 : va_D A ([(h0, .inl (G.2.1, 55, .inl (upd (upd (upd (upd (upd (upd (upd (upd (upd f 24 0) 27 (f 35)) 28 (f 36)) 29 (f 37)) 30 (f 38)) 31 (f 39)) 21 2) 26 (f 26)) 22 0)))]) := hD54
              refine lv_aload_n hx hb dX7_hear_159 rfl (lv_at hl26 2 rfl) ?_
              refine lv_iload_n hx hb dX7_hear_160 rfl (lv_at hl26 3 rfl) ?_
              refine k_callv (kRunS (As := [.ref h0, .int 16]) (rest := []) kx (c_X7_useTold_16 l G (upd (upd (upd (upd (upd (upd (upd (upd (upd f 24 0) 27 (f 35)) 28 (f 36)) 29 (f 37)) 30 (f 38)) 31 (f 39)) 21 2) 26 (f 26)) 22 0) h0) q_759 q_757 q_36 q_758 nX7_useTold ⟨Nat.le_of_ble_eq_true rfl, Nat.le_of_ble_eq_true rfl⟩ hK hP55 hD56 (kCtx_all _) rfl hl26.1 (Nat.le_of_ble_eq_true rfl) dX7_hear_161 ⟨Nat.zero_le _, Nat.zero_le _⟩) hP55 hD56 hS54 hA (kCtx_all _) (fun _ => rfl) (fun _ H57 locs57 hw hP57 hD57 hS57 => ?_)
              have hP58 : va_P G.1 vwCl ([(h0, .inl (G.2.1, 55, .inl (upd (upd (upd (upd (upd (upd (upd (upd (upd (upd (upd f 24 0) 27 (f 35)) 28 (f 36)) 29 (f 37)) 30 (f 38)) 31 (f 39)) 21 2) 26 (f 26)) 22 0) 19 (f 16)) 20 (f 17))))]) H57 := hP57
              have hD59 : va_D A ([(h0, .inl (G.2.1, 55, .inl (upd (upd (upd (upd (upd (upd (upd (upd (upd (upd (upd f 24 0) 27 (f 35)) 28 (f 36)) 29 (f 37)) 30 (f 38)) 31 (f 39)) 21 2) 26 (f 26)) 22 0) 19 (f 16)) 20 (f 17))))]) := hD57
              have e0 : s_X7_hear_16_f f = upd (upd (upd (upd (upd (upd (upd (upd (upd (upd (upd f 24 0) 27 (f 35)) 28 (f 36)) 29 (f 37)) 30 (f 38)) 31 (f 39)) 21 2) 26 (f 26)) 22 0) 19 (f 16)) 20 (f 17) := by rw [s_X7_hear_16_f, if_neg c7, if_neg c8, if_pos c9, if_neg c17, if_pos c18, if_pos c19]
              exact k_vret kx hK hP58 hD59 hS57 (u := upd (upd (upd (upd (upd (upd (upd (upd (upd (upd (upd f 24 0) 27 (f 35)) 28 (f 36)) 29 (f 37)) 30 (f 38)) 31 (f 39)) 21 2) 26 (f 26)) 22 0) 19 (f 16)) 20 (f 17)) rfl e0.symm dX7_hear_164
        · skip
          refine lv_iconst (v := 1) hx hb dX7_hear_121 (by decide) ?_
          refine lv_goto (tgt := 131) hx hb dX7_hear_122 (by decide) ?_
          refine k_iast kx hK hP49 hD50 hS48 0 rfl 26 rfl (by decide) (by decide) dX7_hear_131 (fun H60 locs60 hP60 hD60 hS60 => ?_)
          have hP61 : va_P G.1 vwCl ([(h0, .inl (G.2.1, 55, .inl (upd (upd (upd (upd (upd (upd (upd (upd f 24 0) 27 (f 35)) 28 (f 36)) 29 (f 37)) 30 (f 38)) 31 (f 39)) 21 2) 26 1)))]) H60 := hP60
          have hD62 : va_D A ([(h0, .inl (G.2.1, 55, .inl (upd (upd (upd (upd (upd (upd (upd (upd f 24 0) 27 (f 35)) 28 (f 36)) 29 (f 37)) 30 (f 38)) 31 (f 39)) 21 2) 26 1)))]) := hD60
          refine lv_aload_n hx hb dX7_hear_132 rfl (lv_at hl26 2 rfl) ?_
          refine lv_iload_n hx hb dX7_hear_133 rfl (lv_at hl26 4 rfl) ?_
          refine lv_bipush (v := 7) hx hb dX7_hear_134 (by decide) ?_
          refine lv_iadd hx hb dX7_hear_136 ?_
          refine k_top (y := 41) (by decide +kernel) ?_
          refine k_iald (v := (f 41)) kx hK hP61 0 rfl 41 rfl (by decide) (by decide) rfl dX7_hear_137 ?_
          refine lv_iconst (v := 1) hx hb dX7_hear_138 (by decide) ?_
          refine lv_icmp_ne (x := f 41) (y := 1) (tgt := 164) hx hb dX7_hear_139 (by decide) (fun (c21 : ¬ (f 41 = 1)) => ?_) (fun (c21 : f 41 = 1) => ?_)
          · skip
            have e0 : s_X7_hear_16_f f = upd (upd (upd (upd (upd (upd (upd (upd f 24 0) 27 (f 35)) 28 (f 36)) 29 (f 37)) 30 (f 38)) 31 (f 39)) 21 2) 26 1 := by rw [s_X7_hear_16_f, if_neg c7, if_neg c8, if_pos c9, if_pos c17, if_neg c21]
            exact k_vret kx hK hP61 hD62 hS60 (u := upd (upd (upd (upd (upd (upd (upd (upd f 24 0) 27 (f 35)) 28 (f 36)) 29 (f 37)) 30 (f 38)) 31 (f 39)) 21 2) 26 1) rfl e0.symm dX7_hear_164
          · skip
            refine lv_aload_n hx hb dX7_hear_142 rfl (lv_at hl26 2 rfl) ?_
            refine lv_iload_n hx hb dX7_hear_143 rfl (lv_at hl26 3 rfl) ?_
            refine lv_bipush (v := 6) hx hb dX7_hear_144 (by decide) ?_
            refine lv_iadd hx hb dX7_hear_146 ?_
            refine k_top (y := 22) (by decide +kernel) ?_
            refine k_iald (v := (f 22)) kx hK hP61 0 rfl 22 rfl (by decide) (by decide) rfl dX7_hear_147 ?_
            refine lv_iconst (v := 1) hx hb dX7_hear_148 (by decide) ?_
            refine lv_icmp_ne (x := f 22) (y := 1) (tgt := 164) hx hb dX7_hear_149 (by decide) (fun (c22 : ¬ (f 22 = 1)) => ?_) (fun (c22 : f 22 = 1) => ?_)
            · skip
              have e0 : s_X7_hear_16_f f = upd (upd (upd (upd (upd (upd (upd (upd f 24 0) 27 (f 35)) 28 (f 36)) 29 (f 37)) 30 (f 38)) 31 (f 39)) 21 2) 26 1 := by rw [s_X7_hear_16_f, if_neg c7, if_neg c8, if_pos c9, if_pos c17, if_pos c21, if_neg c22]
              exact k_vret kx hK hP61 hD62 hS60 (u := upd (upd (upd (upd (upd (upd (upd (upd f 24 0) 27 (f 35)) 28 (f 36)) 29 (f 37)) 30 (f 38)) 31 (f 39)) 21 2) 26 1) rfl e0.symm dX7_hear_164
            · skip
              refine lv_aload_n hx hb dX7_hear_152 rfl (lv_at hl26 2 rfl) ?_
              refine lv_iload_n hx hb dX7_hear_153 rfl (lv_at hl26 3 rfl) ?_
              refine lv_bipush (v := 6) hx hb dX7_hear_154 (by decide) ?_
              refine lv_iadd hx hb dX7_hear_156 ?_
              refine k_top (y := 22) (by decide +kernel) ?_
              refine lv_iconst (v := 0) hx hb dX7_hear_157 (by decide) ?_
              refine k_iast kx hK hP61 hD62 hS60 0 rfl 22 rfl (by decide) (by decide) dX7_hear_158 (fun H63 locs63 hP63 hD63 hS63 => ?_)
              have hP64 : va_P G.1 vwCl ([(h0, .inl (G.2.1, 55, .inl (upd (upd (upd (upd (upd (upd (upd (upd (upd f 24 0) 27 (f 35)) 28 (f 36)) 29 (f 37)) 30 (f 38)) 31 (f 39)) 21 2) 26 1) 22 0)))]) H63 := hP63
              have hD65 : va_D A ([(h0, .inl (G.2.1, 55, .inl (upd (upd (upd (upd (upd (upd (upd (upd (upd f 24 0) 27 (f 35)) 28 (f 36)) 29 (f 37)) 30 (f 38)) 31 (f 39)) 21 2) 26 1) 22 0)))]) := hD63
              refine lv_aload_n hx hb dX7_hear_159 rfl (lv_at hl26 2 rfl) ?_
              refine lv_iload_n hx hb dX7_hear_160 rfl (lv_at hl26 3 rfl) ?_
              refine k_callv (kRunS (As := [.ref h0, .int 16]) (rest := []) kx (c_X7_useTold_16 l G (upd (upd (upd (upd (upd (upd (upd (upd (upd f 24 0) 27 (f 35)) 28 (f 36)) 29 (f 37)) 30 (f 38)) 31 (f 39)) 21 2) 26 1) 22 0) h0) q_759 q_757 q_36 q_758 nX7_useTold ⟨Nat.le_of_ble_eq_true rfl, Nat.le_of_ble_eq_true rfl⟩ hK hP64 hD65 (kCtx_all _) rfl hl26.1 (Nat.le_of_ble_eq_true rfl) dX7_hear_161 ⟨Nat.zero_le _, Nat.zero_le _⟩) hP64 hD65 hS63 hA (kCtx_all _) (fun _ => rfl) (fun _ H66 locs66 hw hP66 hD66 hS66 => ?_)
              have hP67 : va_P G.1 vwCl ([(h0, .inl (G.2.1, 55, .inl (upd (upd (upd (upd (upd (upd (upd (upd (upd (upd (upd f 24 0) 27 (f 35)) 28 (f 36)) 29 (f 37)) 30 (f 38)) 31 (f 39)) 21 2) 26 1) 22 0) 19 (f 16)) 20 (f 17))))]) H66 := hP66
              have hD68 : va_D A ([(h0, .inl (G.2.1, 55, .inl (upd (upd (upd (upd (upd (upd (upd (upd (upd (upd (upd f 24 0) 27 (f 35)) 28 (f 36)) 29 (f 37)) 30 (f 38)) 31 (f 39)) 21 2) 26 1) 22 0) 19 (f 16)) 20 (f 17))))]) := hD66
              have e0 : s_X7_hear_16_f f = upd (upd (upd (upd (upd (upd (upd (upd (upd (upd (upd f 24 0) 27 (f 35)) 28 (f 36)) 29 (f 37)) 30 (f 38)) 31 (f 39)) 21 2) 26 1) 22 0) 19 (f 16)) 20 (f 17) := by rw [s_X7_hear_16_f, if_neg c7, if_neg c8, if_pos c9, if_pos c17, if_pos c21, if_pos c22]
              exact k_vret kx hK hP67 hD68 hS66 (u := upd (upd (upd (upd (upd (upd (upd (upd (upd (upd (upd f 24 0) 27 (f 35)) 28 (f 36)) 29 (f 37)) 30 (f 38)) 31 (f 39)) 21 2) 26 1) 22 0) 19 (f 16)) 20 (f 17)) rfl e0.symm dX7_hear_164
    · skip
      refine lv_aload_n hx hb dX7_hear_80 rfl (lv_at hl26 2 rfl) ?_
      refine lv_iload_n hx hb dX7_hear_81 rfl (lv_at hl26 3 rfl) ?_
      refine lv_iconst (v := 5) hx hb dX7_hear_82 (by decide) ?_
      refine lv_iadd hx hb dX7_hear_83 ?_
      refine k_top (y := 21) (by decide +kernel) ?_
      refine lv_iconst (v := 2) hx hb dX7_hear_84 (by decide) ?_
      refine k_iast kx hK hP22 hD23 hS21 0 rfl 21 rfl (by decide) (by decide) dX7_hear_85 (fun H69 locs69 hP69 hD69 hS69 => ?_)
      have hP70 : va_P G.1 vwCl ([(h0, .inl (G.2.1, 55, .inl (upd (upd (upd (upd (upd (upd (upd f 24 0) 27 (f 35)) 28 (f 36)) 29 (f 37)) 30 (f 38)) 31 (f 39)) 21 2)))]) H69 := hP69
      have hD71 : va_D A ([(h0, .inl (G.2.1, 55, .inl (upd (upd (upd (upd (upd (upd (upd f 24 0) 27 (f 35)) 28 (f 36)) 29 (f 37)) 30 (f 38)) 31 (f 39)) 21 2)))]) := hD69
      refine lv_goto (tgt := 106) hx hb dX7_hear_86 (by decide) ?_
      refine lv_aload_n hx hb dX7_hear_106 rfl (lv_at hl26 2 rfl) ?_
      refine lv_iload_n hx hb dX7_hear_107 rfl (lv_at hl26 3 rfl) ?_
      refine lv_bipush (v := 10) hx hb dX7_hear_108 (by decide) ?_
      refine lv_iadd hx hb dX7_hear_110 ?_
      refine k_top (y := 26) (by decide +kernel) ?_
      refine lv_aload_n hx hb dX7_hear_111 rfl (lv_at hl26 2 rfl) ?_
      refine lv_iload_n hx hb dX7_hear_112 rfl (lv_at hl26 4 rfl) ?_
      refine lv_bipush (v := 6) hx hb dX7_hear_113 (by decide) ?_
      refine lv_iadd hx hb dX7_hear_115 ?_
      refine k_top (y := 40) (by decide +kernel) ?_
      refine k_iald (v := (f 40)) kx hK hP70 0 rfl 40 rfl (by decide) (by decide) rfl dX7_hear_116 ?_
      refine lv_iconst (v := 1) hx hb dX7_hear_117 (by decide) ?_
      refine lv_icmp_ne (x := f 40) (y := 1) (tgt := 125) hx hb dX7_hear_118 (by decide) (fun (c24 : ¬ (f 40 = 1)) => ?_) (fun (c24 : f 40 = 1) => ?_)
      · skip
        refine lv_aload_n hx hb dX7_hear_125 rfl (lv_at hl26 2 rfl) ?_
        refine lv_iload_n hx hb dX7_hear_126 rfl (lv_at hl26 3 rfl) ?_
        refine lv_bipush (v := 10) hx hb dX7_hear_127 (by decide) ?_
        refine lv_iadd hx hb dX7_hear_129 ?_
        refine k_top (y := 26) (by decide +kernel) ?_
        refine k_iald (v := (f 26)) kx hK hP70 0 rfl 26 rfl (by decide) (by decide) rfl dX7_hear_130 ?_
        refine k_iast kx hK hP70 hD71 hS69 0 rfl 26 rfl (by decide) (by decide) dX7_hear_131 (fun H72 locs72 hP72 hD72 hS72 => ?_)
        have hP73 : va_P G.1 vwCl ([(h0, .inl (G.2.1, 55, .inl (upd (upd (upd (upd (upd (upd (upd (upd f 24 0) 27 (f 35)) 28 (f 36)) 29 (f 37)) 30 (f 38)) 31 (f 39)) 21 2) 26 (f 26))))]) H72 := hP72
        have hD74 : va_D A ([(h0, .inl (G.2.1, 55, .inl (upd (upd (upd (upd (upd (upd (upd (upd f 24 0) 27 (f 35)) 28 (f 36)) 29 (f 37)) 30 (f 38)) 31 (f 39)) 21 2) 26 (f 26))))]) := hD72
        refine lv_aload_n hx hb dX7_hear_132 rfl (lv_at hl26 2 rfl) ?_
        refine lv_iload_n hx hb dX7_hear_133 rfl (lv_at hl26 4 rfl) ?_
        refine lv_bipush (v := 7) hx hb dX7_hear_134 (by decide) ?_
        refine lv_iadd hx hb dX7_hear_136 ?_
        refine k_top (y := 41) (by decide +kernel) ?_
        refine k_iald (v := (f 41)) kx hK hP73 0 rfl 41 rfl (by decide) (by decide) rfl dX7_hear_137 ?_
        refine lv_iconst (v := 1) hx hb dX7_hear_138 (by decide) ?_
        refine lv_icmp_ne (x := f 41) (y := 1) (tgt := 164) hx hb dX7_hear_139 (by decide) (fun (c25 : ¬ (f 41 = 1)) => ?_) (fun (c25 : f 41 = 1) => ?_)
        · skip
          have e0 : s_X7_hear_16_f f = upd (upd (upd (upd (upd (upd (upd (upd f 24 0) 27 (f 35)) 28 (f 36)) 29 (f 37)) 30 (f 38)) 31 (f 39)) 21 2) 26 (f 26) := by rw [s_X7_hear_16_f, if_neg c7, if_pos c8, if_neg c24, if_neg c25]
          exact k_vret kx hK hP73 hD74 hS72 (u := upd (upd (upd (upd (upd (upd (upd (upd f 24 0) 27 (f 35)) 28 (f 36)) 29 (f 37)) 30 (f 38)) 31 (f 39)) 21 2) 26 (f 26)) rfl e0.symm dX7_hear_164
        · skip
          refine lv_aload_n hx hb dX7_hear_142 rfl (lv_at hl26 2 rfl) ?_
          refine lv_iload_n hx hb dX7_hear_143 rfl (lv_at hl26 3 rfl) ?_
          refine lv_bipush (v := 6) hx hb dX7_hear_144 (by decide) ?_
          refine lv_iadd hx hb dX7_hear_146 ?_
          refine k_top (y := 22) (by decide +kernel) ?_
          refine k_iald (v := (f 22)) kx hK hP73 0 rfl 22 rfl (by decide) (by decide) rfl dX7_hear_147 ?_
          refine lv_iconst (v := 1) hx hb dX7_hear_148 (by decide) ?_
          refine lv_icmp_ne (x := f 22) (y := 1) (tgt := 164) hx hb dX7_hear_149 (by decide) (fun (c26 : ¬ (f 22 = 1)) => ?_) (fun (c26 : f 22 = 1) => ?_)
          · skip
            have e0 : s_X7_hear_16_f f = upd (upd (upd (upd (upd (upd (upd (upd f 24 0) 27 (f 35)) 28 (f 36)) 29 (f 37)) 30 (f 38)) 31 (f 39)) 21 2) 26 (f 26) := by rw [s_X7_hear_16_f, if_neg c7, if_pos c8, if_neg c24, if_pos c25, if_neg c26]
            exact k_vret kx hK hP73 hD74 hS72 (u := upd (upd (upd (upd (upd (upd (upd (upd f 24 0) 27 (f 35)) 28 (f 36)) 29 (f 37)) 30 (f 38)) 31 (f 39)) 21 2) 26 (f 26)) rfl e0.symm dX7_hear_164
          · skip
            refine lv_aload_n hx hb dX7_hear_152 rfl (lv_at hl26 2 rfl) ?_
            refine lv_iload_n hx hb dX7_hear_153 rfl (lv_at hl26 3 rfl) ?_
            refine lv_bipush (v := 6) hx hb dX7_hear_154 (by decide) ?_
            refine lv_iadd hx hb dX7_hear_156 ?_
            refine k_top (y := 22) (by decide +kernel) ?_
            refine lv_iconst (v := 0) hx hb dX7_hear_157 (by decide) ?_
            refine k_iast kx hK hP73 hD74 hS72 0 rfl 22 rfl (by decide) (by decide) dX7_hear_158 (fun H75 locs75 hP75 hD75 hS75 => ?_)
            have hP76 : va_P G.1 vwCl ([(h0, .inl (G.2.1, 55, .inl (upd (upd (upd (upd (upd (upd (upd (upd (upd f 24 0) 27 (f 35)) 28 (f 36)) 29 (f 37)) 30 (f 38)) 31 (f 39)) 21 2) 26 (f 26)) 22 0)))]) H75 := hP75
            have hD77 : va_D A ([(h0, .inl (G.2.1, 55, .inl (upd (upd (upd (upd (upd (upd (upd (upd (upd f 24 0) 27 (f 35)) 28 (f 36)) 29 (f 37)) 30 (f 38)) 31 (f 39)) 21 2) 26 (f 26)) 22 0)))]) := hD75
            refine lv_aload_n hx hb dX7_hear_159 rfl (lv_at hl26 2 rfl) ?_
            refine lv_iload_n hx hb dX7_hear_160 rfl (lv_at hl26 3 rfl) ?_
            refine k_callv (kRunS (As := [.ref h0, .int 16]) (rest := []) kx (c_X7_useTold_16 l G (upd (upd (upd (upd (upd (upd (upd (upd (upd f 24 0) 27 (f 35)) 28 (f 36)) 29 (f 37)) 30 (f 38)) 31 (f 39)) 21 2) 26 (f 26)) 22 0) h0) q_759 q_757 q_36 q_758 nX7_useTold ⟨Nat.le_of_ble_eq_true rfl, Nat.le_of_ble_eq_true rfl⟩ hK hP76 hD77 (kCtx_all _) rfl hl26.1 (Nat.le_of_ble_eq_true rfl) dX7_hear_161 ⟨Nat.zero_le _, Nat.zero_le _⟩) hP76 hD77 hS75 hA (kCtx_all _) (fun _ => rfl) (fun _ H78 locs78 hw hP78 hD78 hS78 => ?_)
            have hP79 : va_P G.1 vwCl ([(h0, .inl (G.2.1, 55, .inl (upd (upd (upd (upd (upd (upd (upd (upd (upd (upd (upd f 24 0) 27 (f 35)) 28 (f 36)) 29 (f 37)) 30 (f 38)) 31 (f 39)) 21 2) 26 (f 26)) 22 0) 19 (f 16)) 20 (f 17))))]) H78 := hP78
            have hD80 : va_D A ([(h0, .inl (G.2.1, 55, .inl (upd (upd (upd (upd (upd (upd (upd (upd (upd (upd (upd f 24 0) 27 (f 35)) 28 (f 36)) 29 (f 37)) 30 (f 38)) 31 (f 39)) 21 2) 26 (f 26)) 22 0) 19 (f 16)) 20 (f 17))))]) := hD78
            have e0 : s_X7_hear_16_f f = upd (upd (upd (upd (upd (upd (upd (upd (upd (upd (upd f 24 0) 27 (f 35)) 28 (f 36)) 29 (f 37)) 30 (f 38)) 31 (f 39)) 21 2) 26 (f 26)) 22 0) 19 (f 16)) 20 (f 17) := by rw [s_X7_hear_16_f, if_neg c7, if_pos c8, if_neg c24, if_pos c25, if_pos c26]
            exact k_vret kx hK hP79 hD80 hS78 (u := upd (upd (upd (upd (upd (upd (upd (upd (upd (upd (upd f 24 0) 27 (f 35)) 28 (f 36)) 29 (f 37)) 30 (f 38)) 31 (f 39)) 21 2) 26 (f 26)) 22 0) 19 (f 16)) 20 (f 17)) rfl e0.symm dX7_hear_164
      · skip
        refine lv_iconst (v := 1) hx hb dX7_hear_121 (by decide) ?_
        refine lv_goto (tgt := 131) hx hb dX7_hear_122 (by decide) ?_
        refine k_iast kx hK hP70 hD71 hS69 0 rfl 26 rfl (by decide) (by decide) dX7_hear_131 (fun H81 locs81 hP81 hD81 hS81 => ?_)
        have hP82 : va_P G.1 vwCl ([(h0, .inl (G.2.1, 55, .inl (upd (upd (upd (upd (upd (upd (upd (upd f 24 0) 27 (f 35)) 28 (f 36)) 29 (f 37)) 30 (f 38)) 31 (f 39)) 21 2) 26 1)))]) H81 := hP81
        have hD83 : va_D A ([(h0, .inl (G.2.1, 55, .inl (upd (upd (upd (upd (upd (upd (upd (upd f 24 0) 27 (f 35)) 28 (f 36)) 29 (f 37)) 30 (f 38)) 31 (f 39)) 21 2) 26 1)))]) := hD81
        refine lv_aload_n hx hb dX7_hear_132 rfl (lv_at hl26 2 rfl) ?_
        refine lv_iload_n hx hb dX7_hear_133 rfl (lv_at hl26 4 rfl) ?_
        refine lv_bipush (v := 7) hx hb dX7_hear_134 (by decide) ?_
        refine lv_iadd hx hb dX7_hear_136 ?_
        refine k_top (y := 41) (by decide +kernel) ?_
        refine k_iald (v := (f 41)) kx hK hP82 0 rfl 41 rfl (by decide) (by decide) rfl dX7_hear_137 ?_
        refine lv_iconst (v := 1) hx hb dX7_hear_138 (by decide) ?_
        refine lv_icmp_ne (x := f 41) (y := 1) (tgt := 164) hx hb dX7_hear_139 (by decide) (fun (c28 : ¬ (f 41 = 1)) => ?_) (fun (c28 : f 41 = 1) => ?_)
        · skip
          have e0 : s_X7_hear_16_f f = upd (upd (upd (upd (upd (upd (upd (upd f 24 0) 27 (f 35)) 28 (f 36)) 29 (f 37)) 30 (f 38)) 31 (f 39)) 21 2) 26 1 := by rw [s_X7_hear_16_f, if_neg c7, if_pos c8, if_pos c24, if_neg c28]
          exact k_vret kx hK hP82 hD83 hS81 (u := upd (upd (upd (upd (upd (upd (upd (upd f 24 0) 27 (f 35)) 28 (f 36)) 29 (f 37)) 30 (f 38)) 31 (f 39)) 21 2) 26 1) rfl e0.symm dX7_hear_164
        · skip
          refine lv_aload_n hx hb dX7_hear_142 rfl (lv_at hl26 2 rfl) ?_
          refine lv_iload_n hx hb dX7_hear_143 rfl (lv_at hl26 3 rfl) ?_
          refine lv_bipush (v := 6) hx hb dX7_hear_144 (by decide) ?_
          refine lv_iadd hx hb dX7_hear_146 ?_
          refine k_top (y := 22) (by decide +kernel) ?_
          refine k_iald (v := (f 22)) kx hK hP82 0 rfl 22 rfl (by decide) (by decide) rfl dX7_hear_147 ?_
          refine lv_iconst (v := 1) hx hb dX7_hear_148 (by decide) ?_
          refine lv_icmp_ne (x := f 22) (y := 1) (tgt := 164) hx hb dX7_hear_149 (by decide) (fun (c29 : ¬ (f 22 = 1)) => ?_) (fun (c29 : f 22 = 1) => ?_)
          · skip
            have e0 : s_X7_hear_16_f f = upd (upd (upd (upd (upd (upd (upd (upd f 24 0) 27 (f 35)) 28 (f 36)) 29 (f 37)) 30 (f 38)) 31 (f 39)) 21 2) 26 1 := by rw [s_X7_hear_16_f, if_neg c7, if_pos c8, if_pos c24, if_pos c28, if_neg c29]
            exact k_vret kx hK hP82 hD83 hS81 (u := upd (upd (upd (upd (upd (upd (upd (upd f 24 0) 27 (f 35)) 28 (f 36)) 29 (f 37)) 30 (f 38)) 31 (f 39)) 21 2) 26 1) rfl e0.symm dX7_hear_164
          · skip
            refine lv_aload_n hx hb dX7_hear_152 rfl (lv_at hl26 2 rfl) ?_
            refine lv_iload_n hx hb dX7_hear_153 rfl (lv_at hl26 3 rfl) ?_
            refine lv_bipush (v := 6) hx hb dX7_hear_154 (by decide) ?_
            refine lv_iadd hx hb dX7_hear_156 ?_
            refine k_top (y := 22) (by decide +kernel) ?_
            refine lv_iconst (v := 0) hx hb dX7_hear_157 (by decide) ?_
            refine k_iast kx hK hP82 hD83 hS81 0 rfl 22 rfl (by decide) (by decide) dX7_hear_158 (fun H84 locs84 hP84 hD84 hS84 => ?_)
            have hP85 : va_P G.1 vwCl ([(h0, .inl (G.2.1, 55, .inl (upd (upd (upd (upd (upd (upd (upd (upd (upd f 24 0) 27 (f 35)) 28 (f 36)) 29 (f 37)) 30 (f 38)) 31 (f 39)) 21 2) 26 1) 22 0)))]) H84 := hP84
            have hD86 : va_D A ([(h0, .inl (G.2.1, 55, .inl (upd (upd (upd (upd (upd (upd (upd (upd (upd f 24 0) 27 (f 35)) 28 (f 36)) 29 (f 37)) 30 (f 38)) 31 (f 39)) 21 2) 26 1) 22 0)))]) := hD84
            refine lv_aload_n hx hb dX7_hear_159 rfl (lv_at hl26 2 rfl) ?_
            refine lv_iload_n hx hb dX7_hear_160 rfl (lv_at hl26 3 rfl) ?_
            refine k_callv (kRunS (As := [.ref h0, .int 16]) (rest := []) kx (c_X7_useTold_16 l G (upd (upd (upd (upd (upd (upd (upd (upd (upd f 24 0) 27 (f 35)) 28 (f 36)) 29 (f 37)) 30 (f 38)) 31 (f 39)) 21 2) 26 1) 22 0) h0) q_759 q_757 q_36 q_758 nX7_useTold ⟨Nat.le_of_ble_eq_true rfl, Nat.le_of_ble_eq_true rfl⟩ hK hP85 hD86 (kCtx_all _) rfl hl26.1 (Nat.le_of_ble_eq_true rfl) dX7_hear_161 ⟨Nat.zero_le _, Nat.zero_le _⟩) hP85 hD86 hS84 hA (kCtx_all _) (fun _ => rfl) (fun _ H87 locs87 hw hP87 hD87 hS87 => ?_)
            have hP88 : va_P G.1 vwCl ([(h0, .inl (G.2.1, 55, .inl (upd (upd (upd (upd (upd (upd (upd (upd (upd (upd (upd f 24 0) 27 (f 35)) 28 (f 36)) 29 (f 37)) 30 (f 38)) 31 (f 39)) 21 2) 26 1) 22 0) 19 (f 16)) 20 (f 17))))]) H87 := hP87
            have hD89 : va_D A ([(h0, .inl (G.2.1, 55, .inl (upd (upd (upd (upd (upd (upd (upd (upd (upd (upd (upd f 24 0) 27 (f 35)) 28 (f 36)) 29 (f 37)) 30 (f 38)) 31 (f 39)) 21 2) 26 1) 22 0) 19 (f 16)) 20 (f 17))))]) := hD87
            have e0 : s_X7_hear_16_f f = upd (upd (upd (upd (upd (upd (upd (upd (upd (upd (upd f 24 0) 27 (f 35)) 28 (f 36)) 29 (f 37)) 30 (f 38)) 31 (f 39)) 21 2) 26 1) 22 0) 19 (f 16)) 20 (f 17) := by rw [s_X7_hear_16_f, if_neg c7, if_pos c8, if_pos c24, if_pos c28, if_pos c29]
            exact k_vret kx hK hP88 hD89 hS87 (u := upd (upd (upd (upd (upd (upd (upd (upd (upd (upd (upd f 24 0) 27 (f 35)) 28 (f 36)) 29 (f 37)) 30 (f 38)) 31 (f 39)) 21 2) 26 1) 22 0) 19 (f 16)) 20 (f 17)) rfl e0.symm dX7_hear_164
  · skip
    refine lv_iload hx hb dX7_hear_52 (lv_at hl26 0 rfl) ?_
    refine lv_iconst (v := 2) hx hb dX7_hear_54 (by decide) ?_
    refine lv_icmp_ne (x := f 21) (y := 2) (tgt := 66) hx hb dX7_hear_55 (by decide) (fun (c31 : ¬ (f 21 = 2)) => ?_) (fun (c31 : f 21 = 2) => ?_)
    · skip
      refine lv_aload_n hx hb dX7_hear_66 rfl (lv_at hl26 2 rfl) ?_
      refine lv_iload_n hx hb dX7_hear_67 rfl (lv_at hl26 3 rfl) ?_
      refine lv_iconst (v := 5) hx hb dX7_hear_68 (by decide) ?_
      refine lv_iadd hx hb dX7_hear_69 ?_
      refine k_top (y := 21) (by decide +kernel) ?_
      refine lv_iconst (v := 1) hx hb dX7_hear_70 (by decide) ?_
      refine k_iast kx hK hP22 hD23 hS21 0 rfl 21 rfl (by decide) (by decide) dX7_hear_71 (fun H90 locs90 hP90 hD90 hS90 => ?_)
      have hP91 : va_P G.1 vwCl ([(h0, .inl (G.2.1, 55, .inl (upd (upd (upd (upd (upd (upd (upd f 24 0) 27 (f 35)) 28 (f 36)) 29 (f 37)) 30 (f 38)) 31 (f 39)) 21 1)))]) H90 := hP90
      have hD92 : va_D A ([(h0, .inl (G.2.1, 55, .inl (upd (upd (upd (upd (upd (upd (upd f 24 0) 27 (f 35)) 28 (f 36)) 29 (f 37)) 30 (f 38)) 31 (f 39)) 21 1)))]) := hD90
      refine lv_goto (tgt := 106) hx hb dX7_hear_72 (by decide) ?_
      refine lv_aload_n hx hb dX7_hear_106 rfl (lv_at hl26 2 rfl) ?_
      refine lv_iload_n hx hb dX7_hear_107 rfl (lv_at hl26 3 rfl) ?_
      refine lv_bipush (v := 10) hx hb dX7_hear_108 (by decide) ?_
      refine lv_iadd hx hb dX7_hear_110 ?_
      refine k_top (y := 26) (by decide +kernel) ?_
      refine lv_aload_n hx hb dX7_hear_111 rfl (lv_at hl26 2 rfl) ?_
      refine lv_iload_n hx hb dX7_hear_112 rfl (lv_at hl26 4 rfl) ?_
      refine lv_bipush (v := 6) hx hb dX7_hear_113 (by decide) ?_
      refine lv_iadd hx hb dX7_hear_115 ?_
      refine k_top (y := 40) (by decide +kernel) ?_
      refine k_iald (v := (f 40)) kx hK hP91 0 rfl 40 rfl (by decide) (by decide) rfl dX7_hear_116 ?_
      refine lv_iconst (v := 1) hx hb dX7_hear_117 (by decide) ?_
      refine lv_icmp_ne (x := f 40) (y := 1) (tgt := 125) hx hb dX7_hear_118 (by decide) (fun (c32 : ¬ (f 40 = 1)) => ?_) (fun (c32 : f 40 = 1) => ?_)
      · skip
        refine lv_aload_n hx hb dX7_hear_125 rfl (lv_at hl26 2 rfl) ?_
        refine lv_iload_n hx hb dX7_hear_126 rfl (lv_at hl26 3 rfl) ?_
        refine lv_bipush (v := 10) hx hb dX7_hear_127 (by decide) ?_
        refine lv_iadd hx hb dX7_hear_129 ?_
        refine k_top (y := 26) (by decide +kernel) ?_
        refine k_iald (v := (f 26)) kx hK hP91 0 rfl 26 rfl (by decide) (by decide) rfl dX7_hear_130 ?_
        refine k_iast kx hK hP91 hD92 hS90 0 rfl 26 rfl (by decide) (by decide) dX7_hear_131 (fun H93 locs93 hP93 hD93 hS93 => ?_)
        have hP94 : va_P G.1 vwCl ([(h0, .inl (G.2.1, 55, .inl (upd (upd (upd (upd (upd (upd (upd (upd f 24 0) 27 (f 35)) 28 (f 36)) 29 (f 37)) 30 (f 38)) 31 (f 39)) 21 1) 26 (f 26))))]) H93 := hP93
        have hD95 : va_D A ([(h0, .inl (G.2.1, 55, .inl (upd (upd (upd (upd (upd (upd (upd (upd f 24 0) 27 (f 35)) 28 (f 36)) 29 (f 37)) 30 (f 38)) 31 (f 39)) 21 1) 26 (f 26))))]) := hD93
        refine lv_aload_n hx hb dX7_hear_132 rfl (lv_at hl26 2 rfl) ?_
        refine lv_iload_n hx hb dX7_hear_133 rfl (lv_at hl26 4 rfl) ?_
        refine lv_bipush (v := 7) hx hb dX7_hear_134 (by decide) ?_
        refine lv_iadd hx hb dX7_hear_136 ?_
        refine k_top (y := 41) (by decide +kernel) ?_
        refine k_iald (v := (f 41)) kx hK hP94 0 rfl 41 rfl (by decide) (by decide) rfl dX7_hear_137 ?_
        refine lv_iconst (v := 1) hx hb dX7_hear_138 (by decide) ?_
        refine lv_icmp_ne (x := f 41) (y := 1) (tgt := 164) hx hb dX7_hear_139 (by decide) (fun (c33 : ¬ (f 41 = 1)) => ?_) (fun (c33 : f 41 = 1) => ?_)
        · skip
          have e0 : s_X7_hear_16_f f = upd (upd (upd (upd (upd (upd (upd (upd f 24 0) 27 (f 35)) 28 (f 36)) 29 (f 37)) 30 (f 38)) 31 (f 39)) 21 1) 26 (f 26) := by rw [s_X7_hear_16_f, if_pos c7, if_neg c31, if_neg c32, if_neg c33]
          exact k_vret kx hK hP94 hD95 hS93 (u := upd (upd (upd (upd (upd (upd (upd (upd f 24 0) 27 (f 35)) 28 (f 36)) 29 (f 37)) 30 (f 38)) 31 (f 39)) 21 1) 26 (f 26)) rfl e0.symm dX7_hear_164
        · skip
          refine lv_aload_n hx hb dX7_hear_142 rfl (lv_at hl26 2 rfl) ?_
          refine lv_iload_n hx hb dX7_hear_143 rfl (lv_at hl26 3 rfl) ?_
          refine lv_bipush (v := 6) hx hb dX7_hear_144 (by decide) ?_
          refine lv_iadd hx hb dX7_hear_146 ?_
          refine k_top (y := 22) (by decide +kernel) ?_
          refine k_iald (v := (f 22)) kx hK hP94 0 rfl 22 rfl (by decide) (by decide) rfl dX7_hear_147 ?_
          refine lv_iconst (v := 1) hx hb dX7_hear_148 (by decide) ?_
          refine lv_icmp_ne (x := f 22) (y := 1) (tgt := 164) hx hb dX7_hear_149 (by decide) (fun (c34 : ¬ (f 22 = 1)) => ?_) (fun (c34 : f 22 = 1) => ?_)
          · skip
            have e0 : s_X7_hear_16_f f = upd (upd (upd (upd (upd (upd (upd (upd f 24 0) 27 (f 35)) 28 (f 36)) 29 (f 37)) 30 (f 38)) 31 (f 39)) 21 1) 26 (f 26) := by rw [s_X7_hear_16_f, if_pos c7, if_neg c31, if_neg c32, if_pos c33, if_neg c34]
            exact k_vret kx hK hP94 hD95 hS93 (u := upd (upd (upd (upd (upd (upd (upd (upd f 24 0) 27 (f 35)) 28 (f 36)) 29 (f 37)) 30 (f 38)) 31 (f 39)) 21 1) 26 (f 26)) rfl e0.symm dX7_hear_164
          · skip
            refine lv_aload_n hx hb dX7_hear_152 rfl (lv_at hl26 2 rfl) ?_
            refine lv_iload_n hx hb dX7_hear_153 rfl (lv_at hl26 3 rfl) ?_
            refine lv_bipush (v := 6) hx hb dX7_hear_154 (by decide) ?_
            refine lv_iadd hx hb dX7_hear_156 ?_
            refine k_top (y := 22) (by decide +kernel) ?_
            refine lv_iconst (v := 0) hx hb dX7_hear_157 (by decide) ?_
            refine k_iast kx hK hP94 hD95 hS93 0 rfl 22 rfl (by decide) (by decide) dX7_hear_158 (fun H96 locs96 hP96 hD96 hS96 => ?_)
            have hP97 : va_P G.1 vwCl ([(h0, .inl (G.2.1, 55, .inl (upd (upd (upd (upd (upd (upd (upd (upd (upd f 24 0) 27 (f 35)) 28 (f 36)) 29 (f 37)) 30 (f 38)) 31 (f 39)) 21 1) 26 (f 26)) 22 0)))]) H96 := hP96
            have hD98 : va_D A ([(h0, .inl (G.2.1, 55, .inl (upd (upd (upd (upd (upd (upd (upd (upd (upd f 24 0) 27 (f 35)) 28 (f 36)) 29 (f 37)) 30 (f 38)) 31 (f 39)) 21 1) 26 (f 26)) 22 0)))]) := hD96
            refine lv_aload_n hx hb dX7_hear_159 rfl (lv_at hl26 2 rfl) ?_
            refine lv_iload_n hx hb dX7_hear_160 rfl (lv_at hl26 3 rfl) ?_
            refine k_callv (kRunS (As := [.ref h0, .int 16]) (rest := []) kx (c_X7_useTold_16 l G (upd (upd (upd (upd (upd (upd (upd (upd (upd f 24 0) 27 (f 35)) 28 (f 36)) 29 (f 37)) 30 (f 38)) 31 (f 39)) 21 1) 26 (f 26)) 22 0) h0) q_759 q_757 q_36 q_758 nX7_useTold ⟨Nat.le_of_ble_eq_true rfl, Nat.le_of_ble_eq_true rfl⟩ hK hP97 hD98 (kCtx_all _) rfl hl26.1 (Nat.le_of_ble_eq_true rfl) dX7_hear_161 ⟨Nat.zero_le _, Nat.zero_le _⟩) hP97 hD98 hS96 hA (kCtx_all _) (fun _ => rfl) (fun _ H99 locs99 hw hP99 hD99 hS99 => ?_)
            have hP100 : va_P G.1 vwCl ([(h0, .inl (G.2.1, 55, .inl (upd (upd (upd (upd (upd (upd (upd (upd (upd (upd (upd f 24 0) 27 (f 35)) 28 (f 36)) 29 (f 37)) 30 (f 38)) 31 (f 39)) 21 1) 26 (f 26)) 22 0) 19 (f 16)) 20 (f 17))))]) H99 := hP99
            have hD101 : va_D A ([(h0, .inl (G.2.1, 55, .inl (upd (upd (upd (upd (upd (upd (upd (upd (upd (upd (upd f 24 0) 27 (f 35)) 28 (f 36)) 29 (f 37)) 30 (f 38)) 31 (f 39)) 21 1) 26 (f 26)) 22 0) 19 (f 16)) 20 (f 17))))]) := hD99
            have e0 : s_X7_hear_16_f f = upd (upd (upd (upd (upd (upd (upd (upd (upd (upd (upd f 24 0) 27 (f 35)) 28 (f 36)) 29 (f 37)) 30 (f 38)) 31 (f 39)) 21 1) 26 (f 26)) 22 0) 19 (f 16)) 20 (f 17) := by rw [s_X7_hear_16_f, if_pos c7, if_neg c31, if_neg c32, if_pos c33, if_pos c34]
            exact k_vret kx hK hP100 hD101 hS99 (u := upd (upd (upd (upd (upd (upd (upd (upd (upd (upd (upd f 24 0) 27 (f 35)) 28 (f 36)) 29 (f 37)) 30 (f 38)) 31 (f 39)) 21 1) 26 (f 26)) 22 0) 19 (f 16)) 20 (f 17)) rfl e0.symm dX7_hear_164
      · skip
        refine lv_iconst (v := 1) hx hb dX7_hear_121 (by decide) ?_
        refine lv_goto (tgt := 131) hx hb dX7_hear_122 (by decide) ?_
        refine k_iast kx hK hP91 hD92 hS90 0 rfl 26 rfl (by decide) (by decide) dX7_hear_131 (fun H102 locs102 hP102 hD102 hS102 => ?_)
        have hP103 : va_P G.1 vwCl ([(h0, .inl (G.2.1, 55, .inl (upd (upd (upd (upd (upd (upd (upd (upd f 24 0) 27 (f 35)) 28 (f 36)) 29 (f 37)) 30 (f 38)) 31 (f 39)) 21 1) 26 1)))]) H102 := hP102
        have hD104 : va_D A ([(h0, .inl (G.2.1, 55, .inl (upd (upd (upd (upd (upd (upd (upd (upd f 24 0) 27 (f 35)) 28 (f 36)) 29 (f 37)) 30 (f 38)) 31 (f 39)) 21 1) 26 1)))]) := hD102
        refine lv_aload_n hx hb dX7_hear_132 rfl (lv_at hl26 2 rfl) ?_
        refine lv_iload_n hx hb dX7_hear_133 rfl (lv_at hl26 4 rfl) ?_
        refine lv_bipush (v := 7) hx hb dX7_hear_134 (by decide) ?_
        refine lv_iadd hx hb dX7_hear_136 ?_
        refine k_top (y := 41) (by decide +kernel) ?_
        refine k_iald (v := (f 41)) kx hK hP103 0 rfl 41 rfl (by decide) (by decide) rfl dX7_hear_137 ?_
        refine lv_iconst (v := 1) hx hb dX7_hear_138 (by decide) ?_
        refine lv_icmp_ne (x := f 41) (y := 1) (tgt := 164) hx hb dX7_hear_139 (by decide) (fun (c36 : ¬ (f 41 = 1)) => ?_) (fun (c36 : f 41 = 1) => ?_)
        · skip
          have e0 : s_X7_hear_16_f f = upd (upd (upd (upd (upd (upd (upd (upd f 24 0) 27 (f 35)) 28 (f 36)) 29 (f 37)) 30 (f 38)) 31 (f 39)) 21 1) 26 1 := by rw [s_X7_hear_16_f, if_pos c7, if_neg c31, if_pos c32, if_neg c36]
          exact k_vret kx hK hP103 hD104 hS102 (u := upd (upd (upd (upd (upd (upd (upd (upd f 24 0) 27 (f 35)) 28 (f 36)) 29 (f 37)) 30 (f 38)) 31 (f 39)) 21 1) 26 1) rfl e0.symm dX7_hear_164
        · skip
          refine lv_aload_n hx hb dX7_hear_142 rfl (lv_at hl26 2 rfl) ?_
          refine lv_iload_n hx hb dX7_hear_143 rfl (lv_at hl26 3 rfl) ?_
          refine lv_bipush (v := 6) hx hb dX7_hear_144 (by decide) ?_
          refine lv_iadd hx hb dX7_hear_146 ?_
          refine k_top (y := 22) (by decide +kernel) ?_
          refine k_iald (v := (f 22)) kx hK hP103 0 rfl 22 rfl (by decide) (by decide) rfl dX7_hear_147 ?_
          refine lv_iconst (v := 1) hx hb dX7_hear_148 (by decide) ?_
          refine lv_icmp_ne (x := f 22) (y := 1) (tgt := 164) hx hb dX7_hear_149 (by decide) (fun (c37 : ¬ (f 22 = 1)) => ?_) (fun (c37 : f 22 = 1) => ?_)
          · skip
            have e0 : s_X7_hear_16_f f = upd (upd (upd (upd (upd (upd (upd (upd f 24 0) 27 (f 35)) 28 (f 36)) 29 (f 37)) 30 (f 38)) 31 (f 39)) 21 1) 26 1 := by rw [s_X7_hear_16_f, if_pos c7, if_neg c31, if_pos c32, if_pos c36, if_neg c37]
            exact k_vret kx hK hP103 hD104 hS102 (u := upd (upd (upd (upd (upd (upd (upd (upd f 24 0) 27 (f 35)) 28 (f 36)) 29 (f 37)) 30 (f 38)) 31 (f 39)) 21 1) 26 1) rfl e0.symm dX7_hear_164
          · skip
            refine lv_aload_n hx hb dX7_hear_152 rfl (lv_at hl26 2 rfl) ?_
            refine lv_iload_n hx hb dX7_hear_153 rfl (lv_at hl26 3 rfl) ?_
            refine lv_bipush (v := 6) hx hb dX7_hear_154 (by decide) ?_
            refine lv_iadd hx hb dX7_hear_156 ?_
            refine k_top (y := 22) (by decide +kernel) ?_
            refine lv_iconst (v := 0) hx hb dX7_hear_157 (by decide) ?_
            refine k_iast kx hK hP103 hD104 hS102 0 rfl 22 rfl (by decide) (by decide) dX7_hear_158 (fun H105 locs105 hP105 hD105 hS105 => ?_)
            have hP106 : va_P G.1 vwCl ([(h0, .inl (G.2.1, 55, .inl (upd (upd (upd (upd (upd (upd (upd (upd (upd f 24 0) 27 (f 35)) 28 (f 36)) 29 (f 37)) 30 (f 38)) 31 (f 39)) 21 1) 26 1) 22 0)))]) H105 := hP105
            have hD107 : va_D A ([(h0, .inl (G.2.1, 55, .inl (upd (upd (upd (upd (upd (upd (upd (upd (upd f 24 0) 27 (f 35)) 28 (f 36)) 29 (f 37)) 30 (f 38)) 31 (f 39)) 21 1) 26 1) 22 0)))]) := hD105
            refine lv_aload_n hx hb dX7_hear_159 rfl (lv_at hl26 2 rfl) ?_
            refine lv_iload_n hx hb dX7_hear_160 rfl (lv_at hl26 3 rfl) ?_
            refine k_callv (kRunS (As := [.ref h0, .int 16]) (rest := []) kx (c_X7_useTold_16 l G (upd (upd (upd (upd (upd (upd (upd (upd (upd f 24 0) 27 (f 35)) 28 (f 36)) 29 (f 37)) 30 (f 38)) 31 (f 39)) 21 1) 26 1) 22 0) h0) q_759 q_757 q_36 q_758 nX7_useTold ⟨Nat.le_of_ble_eq_true rfl, Nat.le_of_ble_eq_true rfl⟩ hK hP106 hD107 (kCtx_all _) rfl hl26.1 (Nat.le_of_ble_eq_true rfl) dX7_hear_161 ⟨Nat.zero_le _, Nat.zero_le _⟩) hP106 hD107 hS105 hA (kCtx_all _) (fun _ => rfl) (fun _ H108 locs108 hw hP108 hD108 hS108 => ?_)
            have hP109 : va_P G.1 vwCl ([(h0, .inl (G.2.1, 55, .inl (upd (upd (upd (upd (upd (upd (upd (upd (upd (upd (upd f 24 0) 27 (f 35)) 28 (f 36)) 29 (f 37)) 30 (f 38)) 31 (f 39)) 21 1) 26 1) 22 0) 19 (f 16)) 20 (f 17))))]) H108 := hP108
            have hD110 : va_D A ([(h0, .inl (G.2.1, 55, .inl (upd (upd (upd (upd (upd (upd (upd (upd (upd (upd (upd f 24 0) 27 (f 35)) 28 (f 36)) 29 (f 37)) 30 (f 38)) 31 (f 39)) 21 1) 26 1) 22 0) 19 (f 16)) 20 (f 17))))]) := hD108
            have e0 : s_X7_hear_16_f f = upd (upd (upd (upd (upd (upd (upd (upd (upd (upd (upd f 24 0) 27 (f 35)) 28 (f 36)) 29 (f 37)) 30 (f 38)) 31 (f 39)) 21 1) 26 1) 22 0) 19 (f 16)) 20 (f 17) := by rw [s_X7_hear_16_f, if_pos c7, if_neg c31, if_pos c32, if_pos c36, if_pos c37]
            exact k_vret kx hK hP109 hD110 hS108 (u := upd (upd (upd (upd (upd (upd (upd (upd (upd (upd (upd f 24 0) 27 (f 35)) 28 (f 36)) 29 (f 37)) 30 (f 38)) 31 (f 39)) 21 1) 26 1) 22 0) 19 (f 16)) 20 (f 17)) rfl e0.symm dX7_hear_164
    · skip
      refine lv_aload_n hx hb dX7_hear_58 rfl (lv_at hl26 2 rfl) ?_
      refine lv_iload_n hx hb dX7_hear_59 rfl (lv_at hl26 3 rfl) ?_
      refine k_callv (kRunS (As := [.ref h0, .int 16]) (rest := []) kx (c_X7_fall_16 l G (upd (upd (upd (upd (upd (upd f 24 0) 27 (f 35)) 28 (f 36)) 29 (f 37)) 30 (f 38)) 31 (f 39)) h0) q_792 q_790 q_36 q_791 nX7_fall ⟨Nat.le_of_ble_eq_true rfl, Nat.le_of_ble_eq_true rfl⟩ hK hP22 hD23 (kCtx_all _) rfl hl26.1 (Nat.le_of_ble_eq_true rfl) dX7_hear_60 ⟨Nat.zero_le _, Nat.zero_le _⟩) hP22 hD23 hS21 hA (kCtx_all _) (fun _ => rfl) (fun _ H111 locs111 hw hP111 hD111 hS111 => ?_)
      have hP112 : va_P G.1 vwCl ([(h0, .inl (G.2.1, 55, .inl (upd (upd (upd (upd (upd (upd (upd (upd (upd (upd f 24 0) 27 (f 35)) 28 (f 36)) 29 (f 37)) 30 (f 38)) 31 (f 39)) 21 0) 22 0) 19 (f 16)) 20 (f 17))))]) H111 := hP111
      have hD113 : va_D A ([(h0, .inl (G.2.1, 55, .inl (upd (upd (upd (upd (upd (upd (upd (upd (upd (upd f 24 0) 27 (f 35)) 28 (f 36)) 29 (f 37)) 30 (f 38)) 31 (f 39)) 21 0) 22 0) 19 (f 16)) 20 (f 17))))]) := hD111
      refine lv_goto (tgt := 106) hx hb dX7_hear_63 (by decide) ?_
      refine lv_aload_n hx hb dX7_hear_106 rfl (lv_at hl26 2 rfl) ?_
      refine lv_iload_n hx hb dX7_hear_107 rfl (lv_at hl26 3 rfl) ?_
      refine lv_bipush (v := 10) hx hb dX7_hear_108 (by decide) ?_
      refine lv_iadd hx hb dX7_hear_110 ?_
      refine k_top (y := 26) (by decide +kernel) ?_
      refine lv_aload_n hx hb dX7_hear_111 rfl (lv_at hl26 2 rfl) ?_
      refine lv_iload_n hx hb dX7_hear_112 rfl (lv_at hl26 4 rfl) ?_
      refine lv_bipush (v := 6) hx hb dX7_hear_113 (by decide) ?_
      refine lv_iadd hx hb dX7_hear_115 ?_
      refine k_top (y := 40) (by decide +kernel) ?_
      refine k_iald (v := (f 40)) kx hK hP112 0 rfl 40 rfl (by decide) (by decide) rfl dX7_hear_116 ?_
      refine lv_iconst (v := 1) hx hb dX7_hear_117 (by decide) ?_
      refine lv_icmp_ne (x := f 40) (y := 1) (tgt := 125) hx hb dX7_hear_118 (by decide) (fun (c40 : ¬ (f 40 = 1)) => ?_) (fun (c40 : f 40 = 1) => ?_)
      · skip
        refine lv_aload_n hx hb dX7_hear_125 rfl (lv_at hl26 2 rfl) ?_
        refine lv_iload_n hx hb dX7_hear_126 rfl (lv_at hl26 3 rfl) ?_
        refine lv_bipush (v := 10) hx hb dX7_hear_127 (by decide) ?_
        refine lv_iadd hx hb dX7_hear_129 ?_
        refine k_top (y := 26) (by decide +kernel) ?_
        refine k_iald (v := (f 26)) kx hK hP112 0 rfl 26 rfl (by decide) (by decide) rfl dX7_hear_130 ?_
        refine k_iast kx hK hP112 hD113 hS111 0 rfl 26 rfl (by decide) (by decide) dX7_hear_131 (fun H114 locs114 hP114 hD114 hS114 => ?_)
        have hP115 : va_P G.1 vwCl ([(h0, .inl (G.2.1, 55, .inl (upd (upd (upd (upd (upd (upd (upd (upd (upd (upd (upd f 24 0) 27 (f 35)) 28 (f 36)) 29 (f 37)) 30 (f 38)) 31 (f 39)) 21 0) 22 0) 19 (f 16)) 20 (f 17)) 26 (f 26))))]) H114 := hP114
        have hD116 : va_D A ([(h0, .inl (G.2.1, 55, .inl (upd (upd (upd (upd (upd (upd (upd (upd (upd (upd (upd f 24 0) 27 (f 35)) 28 (f 36)) 29 (f 37)) 30 (f 38)) 31 (f 39)) 21 0) 22 0) 19 (f 16)) 20 (f 17)) 26 (f 26))))]) := hD114
        refine lv_aload_n hx hb dX7_hear_132 rfl (lv_at hl26 2 rfl) ?_
        refine lv_iload_n hx hb dX7_hear_133 rfl (lv_at hl26 4 rfl) ?_
        refine lv_bipush (v := 7) hx hb dX7_hear_134 (by decide) ?_
        refine lv_iadd hx hb dX7_hear_136 ?_
        refine k_top (y := 41) (by decide +kernel) ?_
        refine k_iald (v := (f 41)) kx hK hP115 0 rfl 41 rfl (by decide) (by decide) rfl dX7_hear_137 ?_
        refine lv_iconst (v := 1) hx hb dX7_hear_138 (by decide) ?_
        refine lv_icmp_ne (x := f 41) (y := 1) (tgt := 164) hx hb dX7_hear_139 (by decide) (fun (c41 : ¬ (f 41 = 1)) => ?_) (fun (c41 : f 41 = 1) => ?_)
        · skip
          have e0 : s_X7_hear_16_f f = upd (upd (upd (upd (upd (upd (upd (upd (upd (upd (upd f 24 0) 27 (f 35)) 28 (f 36)) 29 (f 37)) 30 (f 38)) 31 (f 39)) 21 0) 22 0) 19 (f 16)) 20 (f 17)) 26 (f 26) := by rw [s_X7_hear_16_f, if_pos c7, if_pos c31, if_neg c40, if_neg c41]
          exact k_vret kx hK hP115 hD116 hS114 (u := upd (upd (upd (upd (upd (upd (upd (upd (upd (upd (upd f 24 0) 27 (f 35)) 28 (f 36)) 29 (f 37)) 30 (f 38)) 31 (f 39)) 21 0) 22 0) 19 (f 16)) 20 (f 17)) 26 (f 26)) rfl e0.symm dX7_hear_164
        · skip
          refine lv_aload_n hx hb dX7_hear_142 rfl (lv_at hl26 2 rfl) ?_
          refine lv_iload_n hx hb dX7_hear_143 rfl (lv_at hl26 3 rfl) ?_
          refine lv_bipush (v := 6) hx hb dX7_hear_144 (by decide) ?_
          refine lv_iadd hx hb dX7_hear_146 ?_
          refine k_top (y := 22) (by decide +kernel) ?_
          refine k_iald (v := 0) kx hK hP115 0 rfl 22 rfl (by decide) (by decide) rfl dX7_hear_147 ?_
          refine lv_iconst (v := 1) hx hb dX7_hear_148 (by decide) ?_
          refine lv_icmp_ne (x := 0) (y := 1) (tgt := 164) hx hb dX7_hear_149 (by decide) (fun (c42 : ¬ (0 = 1)) => ?_) (fun (c42 : 0 = 1) => absurd c42 (by decide))
          have e0 : s_X7_hear_16_f f = upd (upd (upd (upd (upd (upd (upd (upd (upd (upd (upd f 24 0) 27 (f 35)) 28 (f 36)) 29 (f 37)) 30 (f 38)) 31 (f 39)) 21 0) 22 0) 19 (f 16)) 20 (f 17)) 26 (f 26) := by rw [s_X7_hear_16_f, if_pos c7, if_pos c31, if_neg c40, if_pos c41]
          exact k_vret kx hK hP115 hD116 hS114 (u := upd (upd (upd (upd (upd (upd (upd (upd (upd (upd (upd f 24 0) 27 (f 35)) 28 (f 36)) 29 (f 37)) 30 (f 38)) 31 (f 39)) 21 0) 22 0) 19 (f 16)) 20 (f 17)) 26 (f 26)) rfl e0.symm dX7_hear_164
      · skip
        refine lv_iconst (v := 1) hx hb dX7_hear_121 (by decide) ?_
        refine lv_goto (tgt := 131) hx hb dX7_hear_122 (by decide) ?_
        refine k_iast kx hK hP112 hD113 hS111 0 rfl 26 rfl (by decide) (by decide) dX7_hear_131 (fun H117 locs117 hP117 hD117 hS117 => ?_)
        have hP118 : va_P G.1 vwCl ([(h0, .inl (G.2.1, 55, .inl (upd (upd (upd (upd (upd (upd (upd (upd (upd (upd (upd f 24 0) 27 (f 35)) 28 (f 36)) 29 (f 37)) 30 (f 38)) 31 (f 39)) 21 0) 22 0) 19 (f 16)) 20 (f 17)) 26 1)))]) H117 := hP117
        have hD119 : va_D A ([(h0, .inl (G.2.1, 55, .inl (upd (upd (upd (upd (upd (upd (upd (upd (upd (upd (upd f 24 0) 27 (f 35)) 28 (f 36)) 29 (f 37)) 30 (f 38)) 31 (f 39)) 21 0) 22 0) 19 (f 16)) 20 (f 17)) 26 1)))]) := hD117
        refine lv_aload_n hx hb dX7_hear_132 rfl (lv_at hl26 2 rfl) ?_
        refine lv_iload_n hx hb dX7_hear_133 rfl (lv_at hl26 4 rfl) ?_
        refine lv_bipush (v := 7) hx hb dX7_hear_134 (by decide) ?_
        refine lv_iadd hx hb dX7_hear_136 ?_
        refine k_top (y := 41) (by decide +kernel) ?_
        refine k_iald (v := (f 41)) kx hK hP118 0 rfl 41 rfl (by decide) (by decide) rfl dX7_hear_137 ?_
        refine lv_iconst (v := 1) hx hb dX7_hear_138 (by decide) ?_
        refine lv_icmp_ne (x := f 41) (y := 1) (tgt := 164) hx hb dX7_hear_139 (by decide) (fun (c43 : ¬ (f 41 = 1)) => ?_) (fun (c43 : f 41 = 1) => ?_)
        · skip
          have e0 : s_X7_hear_16_f f = upd (upd (upd (upd (upd (upd (upd (upd (upd (upd (upd f 24 0) 27 (f 35)) 28 (f 36)) 29 (f 37)) 30 (f 38)) 31 (f 39)) 21 0) 22 0) 19 (f 16)) 20 (f 17)) 26 1 := by rw [s_X7_hear_16_f, if_pos c7, if_pos c31, if_pos c40, if_neg c43]
          exact k_vret kx hK hP118 hD119 hS117 (u := upd (upd (upd (upd (upd (upd (upd (upd (upd (upd (upd f 24 0) 27 (f 35)) 28 (f 36)) 29 (f 37)) 30 (f 38)) 31 (f 39)) 21 0) 22 0) 19 (f 16)) 20 (f 17)) 26 1) rfl e0.symm dX7_hear_164
        · skip
          refine lv_aload_n hx hb dX7_hear_142 rfl (lv_at hl26 2 rfl) ?_
          refine lv_iload_n hx hb dX7_hear_143 rfl (lv_at hl26 3 rfl) ?_
          refine lv_bipush (v := 6) hx hb dX7_hear_144 (by decide) ?_
          refine lv_iadd hx hb dX7_hear_146 ?_
          refine k_top (y := 22) (by decide +kernel) ?_
          refine k_iald (v := 0) kx hK hP118 0 rfl 22 rfl (by decide) (by decide) rfl dX7_hear_147 ?_
          refine lv_iconst (v := 1) hx hb dX7_hear_148 (by decide) ?_
          refine lv_icmp_ne (x := 0) (y := 1) (tgt := 164) hx hb dX7_hear_149 (by decide) (fun (c44 : ¬ (0 = 1)) => ?_) (fun (c44 : 0 = 1) => absurd c44 (by decide))
          have e0 : s_X7_hear_16_f f = upd (upd (upd (upd (upd (upd (upd (upd (upd (upd (upd f 24 0) 27 (f 35)) 28 (f 36)) 29 (f 37)) 30 (f 38)) 31 (f 39)) 21 0) 22 0) 19 (f 16)) 20 (f 17)) 26 1 := by rw [s_X7_hear_16_f, if_pos c7, if_pos c31, if_pos c40, if_pos c43]
          exact k_vret kx hK hP118 hD119 hS117 (u := upd (upd (upd (upd (upd (upd (upd (upd (upd (upd (upd f 24 0) 27 (f 35)) 28 (f 36)) 29 (f 37)) 30 (f 38)) 31 (f 39)) 21 0) 22 0) 19 (f 16)) 20 (f 17)) 26 1) rfl e0.symm dX7_hear_164

def s_X7_take_0_Z (Z : Nat → Int32) (f : Nat → Int32) : Nat → Int32 := if f 43 = 1 then (if f 33 = 1 then (if f 51 = 0 then (if Z 18 = 0 then (if Z 19 ≤ 0 then Z else upd Z 19 ((Z 19) - 1)) else Z) else if Z 18 = 0 then (if Z 19 ≤ 0 then Z else upd Z 19 ((Z 19) - 1)) else Z) else Z) else Z
def s_X7_take_0_f (Z : Nat → Int32) (f : Nat → Int32) : Nat → Int32 := if f 43 = 1 then (if f 33 = 1 then (if f 51 = 0 then (if Z 18 = 0 then (if Z 19 ≤ 0 then (s_X7_hear_0_f (upd f 43 0)) else upd (upd f 43 0) 8 ((f 8) + 1)) else s_X7_hear_0_f (upd f 43 0)) else if Z 18 = 0 then (if Z 19 ≤ 0 then (upd (upd f 43 0) 8 ((f 8) + 1)) else upd (upd f 43 0) 8 ((f 8) + 1)) else upd (upd f 43 0) 8 ((f 8) + 1)) else upd (upd f 43 0) 8 ((f 8) + 1)) else upd f 8 ((f 8) + 1)
set_option maxHeartbeats 4000000 in
set_option maxRecDepth 100000 in
theorem c_X7_take_0 (l : Launch) (G : kG) (Z : Nat → Int32) (sd : Int64) (h0 : Nat) (q1 : Nat) (q2 : Nat) (q3 : Nat) (q4 : Nat) (q5 : Nat) (q6 : Nat) (q7 : Nat) (q8 : Nat) (q9 : Nat) (q10 : Nat) (q11 : Nat) (f : Nat → Int32) (h1 : Nat) : cG l G yX7_take cX7_take 6 none 3 [.ref h0, .ref h1, .int 0] ([(h0, .inr (7, cM Z q1 q2 q3 q4 q5 q6 q7 q8 q9 q10 q11 sd)), (h1, .inl (G.2.1, 55, .inl f))]) (qV G (fun u : ((Nat → Int32) × (Nat → Int32)) => u.1 = s_X7_take_0_Z Z f ∧ u.2 = s_X7_take_0_f Z f) (fun u => [(h0, .inr (7, cM u.1 q1 q2 q3 q4 q5 q6 q7 q8 q9 q10 q11 sd)), (h1, .inl (G.2.1, 55, .inl u.2))])) := by
  refine kintro (by decide) (Nat.le_of_ble_eq_true rfl) ?_
  intro p e s m args below meth c A ls kx hK hP hD hS hA hl
  have kx : kX p s m args meth c cX7_take 6 none RX7 := kx
  have hx := kx.1
  have hb := kx.2.1
  have hown := kx.2.2.2.2.1
  have ht := kx.2.2.2.2.2.2
  have hl : lv_has ls 6 [(0, .ref h0), (1, .ref h1), (2, .int 0)] := hl
  refine lv_iconst (v := 1) hx hb dX7_take_0 (by decide) ?_
  refine lv_iload_n hx hb dX7_take_1 rfl (lv_at hl 2 rfl) ?_
  refine lv_isub hx hb dX7_take_2 ?_
  refine k_top (y := 1) (by decide +kernel) ?_
  refine lv_istore_n (lv' := [(3, .int 1), (0, .ref h0), (1, .ref h1), (2, .int 0)]) hx hb dX7_take_3 rfl hl (by decide) rfl (fun ls1 hl1 => ?_)
  refine lv_bipush (v := 34) hx hb dX7_take_4 (by decide) ?_
  refine lv_bipush (v := 9) hx hb dX7_take_6 (by decide) ?_
  refine lv_iload_n hx hb dX7_take_8 rfl (lv_at hl1 0 rfl) ?_
  refine lv_imul hx hb dX7_take_9 ?_
  refine k_top (y := 9) (by decide +kernel) ?_
  refine lv_iadd hx hb dX7_take_10 ?_
  refine k_top (y := 43) (by decide +kernel) ?_
  refine lv_istore (lv' := [(4, .int 43), (3, .int 1), (0, .ref h0), (1, .ref h1), (2, .int 0)]) hx hb dX7_take_11 hl1 (by decide) rfl (fun ls2 hl2 => ?_)
  refine lv_iconst (v := 0) hx hb dX7_take_13 (by decide) ?_
  refine lv_istore (lv' := [(5, .int 0), (4, .int 43), (3, .int 1), (0, .ref h0), (1, .ref h1), (2, .int 0)]) hx hb dX7_take_14 hl2 (by decide) rfl (fun ls3 hl3 => ?_)
  refine lv_aload_n hx hb dX7_take_16 rfl (lv_at hl3 4 rfl) ?_
  refine lv_iload hx hb dX7_take_17 (lv_at hl3 1 rfl) ?_
  refine k_iald (v := (f 43)) kx hK hP 1 rfl 43 rfl (by decide) (by decide) rfl dX7_take_19 ?_
  refine lv_iconst (v := 1) hx hb dX7_take_20 (by decide) ?_
  refine lv_icmp_ne (x := f 43) (y := 1) (tgt := 94) hx hb dX7_take_21 (by decide) (fun (c1 : ¬ (f 43 = 1)) => ?_) (fun (c1 : f 43 = 1) => ?_)
  · skip
    refine lv_iload hx hb dX7_take_94 (lv_at hl3 0 rfl) ?_
    refine lv_if_eq (x := 0) (tgt := 112) hx hb dX7_take_96 (by decide) (fun (c2 : 0 = 0) => ?_) (fun (c2 : ¬ (0 = 0)) => absurd (by decide) c2)
    refine lv_aload_n hx hb dX7_take_112 rfl (lv_at hl3 4 rfl) ?_
    refine lv_bipush (v := 16) hx hb dX7_take_113 (by decide) ?_
    refine lv_iload_n hx hb dX7_take_115 rfl (lv_at hl3 5 rfl) ?_
    refine lv_imul hx hb dX7_take_116 ?_
    refine k_top (y := 0) (by decide +kernel) ?_
    refine lv_bipush (v := 8) hx hb dX7_take_117 (by decide) ?_
    refine lv_iadd hx hb dX7_take_119 ?_
    refine k_top (y := 8) (by decide +kernel) ?_
    refine lv_dup2_11 hx hb dX7_take_120 rfl rfl ?_
    refine k_iald (v := (f 8)) kx hK hP 1 rfl 8 rfl (by decide) (by decide) rfl dX7_take_121 ?_
    refine lv_iconst (v := 1) hx hb dX7_take_122 (by decide) ?_
    refine lv_iadd hx hb dX7_take_123 ?_
    refine k_iast kx hK hP hD hS 1 rfl 8 rfl (by decide) (by decide) dX7_take_124 (fun H4 locs4 hP4 hD4 hS4 => ?_)
    have hP5 : va_P G.1 vwCl ([(h0, .inr (7, cM Z q1 q2 q3 q4 q5 q6 q7 q8 q9 q10 q11 sd)), (h1, .inl (G.2.1, 55, .inl (upd f 8 ((f 8) + 1))))]) H4 := hP4
    have hD6 : va_D A ([(h0, .inr (7, cM Z q1 q2 q3 q4 q5 q6 q7 q8 q9 q10 q11 sd)), (h1, .inl (G.2.1, 55, .inl (upd f 8 ((f 8) + 1))))]) := hD4
    have e0 : s_X7_take_0_Z Z f = Z := by rw [s_X7_take_0_Z, if_neg c1]
    have e1 : s_X7_take_0_f Z f = upd f 8 ((f 8) + 1) := by rw [s_X7_take_0_f, if_neg c1]
    exact k_vret kx hK hP5 hD6 hS4 (u := (Z, upd f 8 ((f 8) + 1))) rfl ⟨e0.symm, e1.symm⟩ dX7_take_125
  · skip
    refine lv_aload_n hx hb dX7_take_24 rfl (lv_at hl3 4 rfl) ?_
    refine lv_iload hx hb dX7_take_25 (lv_at hl3 1 rfl) ?_
    refine lv_iconst (v := 0) hx hb dX7_take_27 (by decide) ?_
    refine k_iast kx hK hP hD hS 1 rfl 43 rfl (by decide) (by decide) dX7_take_28 (fun H7 locs7 hP7 hD7 hS7 => ?_)
    have hP8 : va_P G.1 vwCl ([(h0, .inr (7, cM Z q1 q2 q3 q4 q5 q6 q7 q8 q9 q10 q11 sd)), (h1, .inl (G.2.1, 55, .inl (upd f 43 0)))]) H7 := hP7
    have hD9 : va_D A ([(h0, .inr (7, cM Z q1 q2 q3 q4 q5 q6 q7 q8 q9 q10 q11 sd)), (h1, .inl (G.2.1, 55, .inl (upd f 43 0)))]) := hD7
    refine lv_aload_n hx hb dX7_take_29 rfl (lv_at hl3 4 rfl) ?_
    refine lv_bipush (v := 32) hx hb dX7_take_30 (by decide) ?_
    refine lv_iload_n hx hb dX7_take_32 rfl (lv_at hl3 2 rfl) ?_
    refine lv_iadd hx hb dX7_take_33 ?_
    refine k_top (y := 33) (by decide +kernel) ?_
    refine k_iald (v := (f 33)) kx hK hP8 1 rfl 33 rfl (by decide) (by decide) rfl dX7_take_34 ?_
    refine lv_iconst (v := 1) hx hb dX7_take_35 (by decide) ?_
    refine lv_icmp_ne (x := f 33) (y := 1) (tgt := 53) hx hb dX7_take_36 (by decide) (fun (c3 : ¬ (f 33 = 1)) => ?_) (fun (c3 : f 33 = 1) => ?_)
    · skip
      refine lv_iconst (v := 0) hx hb dX7_take_53 (by decide) ?_
      refine lv_istore (lv' := [(5, .int 0), (4, .int 43), (3, .int 1), (0, .ref h0), (1, .ref h1), (2, .int 0)]) hx hb dX7_take_54 hl3 (by decide) rfl (fun ls10 hl10 => ?_)
      refine lv_aload_n hx hb dX7_take_56 rfl (lv_at hl10 4 rfl) ?_
      refine lv_bipush (v := 32) hx hb dX7_take_57 (by decide) ?_
      refine lv_iload_n hx hb dX7_take_59 rfl (lv_at hl10 2 rfl) ?_
      refine lv_iadd hx hb dX7_take_60 ?_
      refine k_top (y := 33) (by decide +kernel) ?_
      refine k_iald (v := (f 33)) kx hK hP8 1 rfl 33 rfl (by decide) (by decide) rfl dX7_take_61 ?_
      refine lv_iconst (v := 1) hx hb dX7_take_62 (by decide) ?_
      refine lv_icmp_ne (x := f 33) (y := 1) (tgt := 94) hx hb dX7_take_63 (by decide) (fun (c4 : ¬ (f 33 = 1)) => ?_) (fun (c4 : f 33 = 1) => absurd c4 c3)
      refine lv_iload hx hb dX7_take_94 (lv_at hl10 0 rfl) ?_
      refine lv_if_eq (x := 0) (tgt := 112) hx hb dX7_take_96 (by decide) (fun (c5 : 0 = 0) => ?_) (fun (c5 : ¬ (0 = 0)) => absurd (by decide) c5)
      refine lv_aload_n hx hb dX7_take_112 rfl (lv_at hl10 4 rfl) ?_
      refine lv_bipush (v := 16) hx hb dX7_take_113 (by decide) ?_
      refine lv_iload_n hx hb dX7_take_115 rfl (lv_at hl10 5 rfl) ?_
      refine lv_imul hx hb dX7_take_116 ?_
      refine k_top (y := 0) (by decide +kernel) ?_
      refine lv_bipush (v := 8) hx hb dX7_take_117 (by decide) ?_
      refine lv_iadd hx hb dX7_take_119 ?_
      refine k_top (y := 8) (by decide +kernel) ?_
      refine lv_dup2_11 hx hb dX7_take_120 rfl rfl ?_
      refine k_iald (v := (f 8)) kx hK hP8 1 rfl 8 rfl (by decide) (by decide) rfl dX7_take_121 ?_
      refine lv_iconst (v := 1) hx hb dX7_take_122 (by decide) ?_
      refine lv_iadd hx hb dX7_take_123 ?_
      refine k_iast kx hK hP8 hD9 hS7 1 rfl 8 rfl (by decide) (by decide) dX7_take_124 (fun H11 locs11 hP11 hD11 hS11 => ?_)
      have hP12 : va_P G.1 vwCl ([(h0, .inr (7, cM Z q1 q2 q3 q4 q5 q6 q7 q8 q9 q10 q11 sd)), (h1, .inl (G.2.1, 55, .inl (upd (upd f 43 0) 8 ((f 8) + 1))))]) H11 := hP11
      have hD13 : va_D A ([(h0, .inr (7, cM Z q1 q2 q3 q4 q5 q6 q7 q8 q9 q10 q11 sd)), (h1, .inl (G.2.1, 55, .inl (upd (upd f 43 0) 8 ((f 8) + 1))))]) := hD11
      have e0 : s_X7_take_0_Z Z f = Z := by rw [s_X7_take_0_Z, if_pos c1, if_neg c3]
      have e1 : s_X7_take_0_f Z f = upd (upd f 43 0) 8 ((f 8) + 1) := by rw [s_X7_take_0_f, if_pos c1, if_neg c3]
      exact k_vret kx hK hP12 hD13 hS11 (u := (Z, upd (upd f 43 0) 8 ((f 8) + 1))) rfl ⟨e0.symm, e1.symm⟩ dX7_take_125
    · skip
      refine lv_aload_n hx hb dX7_take_39 rfl (lv_at hl3 4 rfl) ?_
      refine lv_iload hx hb dX7_take_40 (lv_at hl3 1 rfl) ?_
      refine lv_bipush (v := 8) hx hb dX7_take_42 (by decide) ?_
      refine lv_iadd hx hb dX7_take_44 ?_
      refine k_top (y := 51) (by decide +kernel) ?_
      refine k_iald (v := (f 51)) kx hK hP8 1 rfl 51 rfl (by decide) (by decide) rfl dX7_take_45 ?_
      refine lv_if_ne (x := f 51) (tgt := 53) hx hb dX7_take_46 (by decide) (fun (c6 : ¬ (f 51 = 0)) => ?_) (fun (c6 : f 51 = 0) => ?_)
      · skip
        refine lv_iconst (v := 0) hx hb dX7_take_53 (by decide) ?_
        refine lv_istore (lv' := [(5, .int 0), (4, .int 43), (3, .int 1), (0, .ref h0), (1, .ref h1), (2, .int 0)]) hx hb dX7_take_54 hl3 (by decide) rfl (fun ls14 hl14 => ?_)
        refine lv_aload_n hx hb dX7_take_56 rfl (lv_at hl14 4 rfl) ?_
        refine lv_bipush (v := 32) hx hb dX7_take_57 (by decide) ?_
        refine lv_iload_n hx hb dX7_take_59 rfl (lv_at hl14 2 rfl) ?_
        refine lv_iadd hx hb dX7_take_60 ?_
        refine k_top (y := 33) (by decide +kernel) ?_
        refine k_iald (v := (f 33)) kx hK hP8 1 rfl 33 rfl (by decide) (by decide) rfl dX7_take_61 ?_
        refine lv_iconst (v := 1) hx hb dX7_take_62 (by decide) ?_
        refine lv_icmp_ne (x := f 33) (y := 1) (tgt := 94) hx hb dX7_take_63 (by decide) (fun (c7 : ¬ (f 33 = 1)) => absurd c3 c7) (fun (c7 : f 33 = 1) => ?_)
        refine lv_aload_n hx hb dX7_take_66 rfl (lv_at hl14 3 rfl) ?_
        refine va_get (ci := 7) (v := .int (Z 18)) (C := RX7) (T := TX7) (N := 22) hx hb ht inX7 hown hK.1 hP8 0 rfl rfl 18 (by decide) (ht _ q_684) (fun _ h9 => h9) rfl dX7_take_67 ?_
        refine lv_iload_n hx hb dX7_take_70 rfl (lv_at hl14 5 rfl) ?_
        refine lv_icmp_ne (x := Z 18) (y := 0) (tgt := 94) hx hb dX7_take_71 (by decide) (fun (c8 : ¬ (Z 18 = 0)) => ?_) (fun (c8 : Z 18 = 0) => ?_)
        · skip
          refine lv_iload hx hb dX7_take_94 (lv_at hl14 0 rfl) ?_
          refine lv_if_eq (x := 0) (tgt := 112) hx hb dX7_take_96 (by decide) (fun (c9 : 0 = 0) => ?_) (fun (c9 : ¬ (0 = 0)) => absurd (by decide) c9)
          refine lv_aload_n hx hb dX7_take_112 rfl (lv_at hl14 4 rfl) ?_
          refine lv_bipush (v := 16) hx hb dX7_take_113 (by decide) ?_
          refine lv_iload_n hx hb dX7_take_115 rfl (lv_at hl14 5 rfl) ?_
          refine lv_imul hx hb dX7_take_116 ?_
          refine k_top (y := 0) (by decide +kernel) ?_
          refine lv_bipush (v := 8) hx hb dX7_take_117 (by decide) ?_
          refine lv_iadd hx hb dX7_take_119 ?_
          refine k_top (y := 8) (by decide +kernel) ?_
          refine lv_dup2_11 hx hb dX7_take_120 rfl rfl ?_
          refine k_iald (v := (f 8)) kx hK hP8 1 rfl 8 rfl (by decide) (by decide) rfl dX7_take_121 ?_
          refine lv_iconst (v := 1) hx hb dX7_take_122 (by decide) ?_
          refine lv_iadd hx hb dX7_take_123 ?_
          refine k_iast kx hK hP8 hD9 hS7 1 rfl 8 rfl (by decide) (by decide) dX7_take_124 (fun H15 locs15 hP15 hD15 hS15 => ?_)
          have hP16 : va_P G.1 vwCl ([(h0, .inr (7, cM Z q1 q2 q3 q4 q5 q6 q7 q8 q9 q10 q11 sd)), (h1, .inl (G.2.1, 55, .inl (upd (upd f 43 0) 8 ((f 8) + 1))))]) H15 := hP15
          have hD17 : va_D A ([(h0, .inr (7, cM Z q1 q2 q3 q4 q5 q6 q7 q8 q9 q10 q11 sd)), (h1, .inl (G.2.1, 55, .inl (upd (upd f 43 0) 8 ((f 8) + 1))))]) := hD15
          have e0 : s_X7_take_0_Z Z f = Z := by rw [s_X7_take_0_Z, if_pos c1, if_pos c3, if_neg c6, if_neg c8]
          have e1 : s_X7_take_0_f Z f = upd (upd f 43 0) 8 ((f 8) + 1) := by rw [s_X7_take_0_f, if_pos c1, if_pos c3, if_neg c6, if_neg c8]
          exact k_vret kx hK hP16 hD17 hS15 (u := (Z, upd (upd f 43 0) 8 ((f 8) + 1))) rfl ⟨e0.symm, e1.symm⟩ dX7_take_125
        · skip
          refine lv_aload_n hx hb dX7_take_74 rfl (lv_at hl14 3 rfl) ?_
          refine va_get (ci := 7) (v := .int (Z 19)) (C := RX7) (T := TX7) (N := 22) hx hb ht inX7 hown hK.1 hP8 0 rfl rfl 19 (by decide) (ht _ q_685) (fun _ h9 => h9) rfl dX7_take_75 ?_
          refine lv_if_le (x := Z 19) (tgt := 94) hx hb dX7_take_78 (by decide) (fun (c10 : Z 19 ≤ 0) => ?_) (fun (c10 : ¬ (Z 19 ≤ 0)) => ?_)
          · skip
            refine lv_iload hx hb dX7_take_94 (lv_at hl14 0 rfl) ?_
            refine lv_if_eq (x := 0) (tgt := 112) hx hb dX7_take_96 (by decide) (fun (c11 : 0 = 0) => ?_) (fun (c11 : ¬ (0 = 0)) => absurd (by decide) c11)
            refine lv_aload_n hx hb dX7_take_112 rfl (lv_at hl14 4 rfl) ?_
            refine lv_bipush (v := 16) hx hb dX7_take_113 (by decide) ?_
            refine lv_iload_n hx hb dX7_take_115 rfl (lv_at hl14 5 rfl) ?_
            refine lv_imul hx hb dX7_take_116 ?_
            refine k_top (y := 0) (by decide +kernel) ?_
            refine lv_bipush (v := 8) hx hb dX7_take_117 (by decide) ?_
            refine lv_iadd hx hb dX7_take_119 ?_
            refine k_top (y := 8) (by decide +kernel) ?_
            refine lv_dup2_11 hx hb dX7_take_120 rfl rfl ?_
            refine k_iald (v := (f 8)) kx hK hP8 1 rfl 8 rfl (by decide) (by decide) rfl dX7_take_121 ?_
            refine lv_iconst (v := 1) hx hb dX7_take_122 (by decide) ?_
            refine lv_iadd hx hb dX7_take_123 ?_
            refine k_iast kx hK hP8 hD9 hS7 1 rfl 8 rfl (by decide) (by decide) dX7_take_124 (fun H18 locs18 hP18 hD18 hS18 => ?_)
            have hP19 : va_P G.1 vwCl ([(h0, .inr (7, cM Z q1 q2 q3 q4 q5 q6 q7 q8 q9 q10 q11 sd)), (h1, .inl (G.2.1, 55, .inl (upd (upd f 43 0) 8 ((f 8) + 1))))]) H18 := hP18
            have hD20 : va_D A ([(h0, .inr (7, cM Z q1 q2 q3 q4 q5 q6 q7 q8 q9 q10 q11 sd)), (h1, .inl (G.2.1, 55, .inl (upd (upd f 43 0) 8 ((f 8) + 1))))]) := hD18
            have e0 : s_X7_take_0_Z Z f = Z := by rw [s_X7_take_0_Z, if_pos c1, if_pos c3, if_neg c6, if_pos c8, if_pos c10]
            have e1 : s_X7_take_0_f Z f = upd (upd f 43 0) 8 ((f 8) + 1) := by rw [s_X7_take_0_f, if_pos c1, if_pos c3, if_neg c6, if_pos c8, if_pos c10]
            exact k_vret kx hK hP19 hD20 hS18 (u := (Z, upd (upd f 43 0) 8 ((f 8) + 1))) rfl ⟨e0.symm, e1.symm⟩ dX7_take_125
          · skip
            refine lv_iconst (v := 0) hx hb dX7_take_81 (by decide) ?_
            refine lv_istore (lv' := [(5, .int 0), (4, .int 43), (3, .int 1), (0, .ref h0), (1, .ref h1), (2, .int 0)]) hx hb dX7_take_82 hl14 (by decide) rfl (fun ls21 hl21 => ?_)
            refine lv_aload_n hx hb dX7_take_84 rfl (lv_at hl21 3 rfl) ?_
            refine lv_dup hx hb dX7_take_85 rfl ?_
            refine va_get (ci := 7) (v := .int (Z 19)) (C := RX7) (T := TX7) (N := 22) hx hb ht inX7 hown hK.1 hP8 0 rfl rfl 19 (by decide) (ht _ q_685) (fun _ h9 => h9) rfl dX7_take_86 ?_
            refine lv_iconst (v := 1) hx hb dX7_take_89 (by decide) ?_
            refine lv_isub hx hb dX7_take_90 ?_
            refine va_put (ci := 7) (v := .int ((Z 19) - 1)) (ty := .int) (C := RX7) (T := TX7) (N := 22) hx hb ht inX7 tyX7 tyX7_ok nmX7 hown hK.1 hP8 hD9 hS7 0 rfl rfl 19 (by decide) (ht _ q_685) (fun _ h9 => h9) rfl (by decide +kernel) rfl rfl (Nat.le_of_ble_eq_true rfl) dX7_take_91 (fun H22 locs22 hP22 hD22 hS22 => ?_)
            have hP23 : va_P G.1 vwCl ([(h0, .inr (7, cM (upd Z 19 ((Z 19) - 1)) q1 q2 q3 q4 q5 q6 q7 q8 q9 q10 q11 sd)), (h1, .inl (G.2.1, 55, .inl (upd f 43 0)))]) H22 := hP22
            have hD24 : va_D A ([(h0, .inr (7, cM (upd Z 19 ((Z 19) - 1)) q1 q2 q3 q4 q5 q6 q7 q8 q9 q10 q11 sd)), (h1, .inl (G.2.1, 55, .inl (upd f 43 0)))]) := hD22
            refine lv_iload hx hb dX7_take_94 (lv_at hl21 0 rfl) ?_
            refine lv_if_eq (x := 0) (tgt := 112) hx hb dX7_take_96 (by decide) (fun (c12 : 0 = 0) => ?_) (fun (c12 : ¬ (0 = 0)) => absurd (by decide) c12)
            refine lv_aload_n hx hb dX7_take_112 rfl (lv_at hl21 4 rfl) ?_
            refine lv_bipush (v := 16) hx hb dX7_take_113 (by decide) ?_
            refine lv_iload_n hx hb dX7_take_115 rfl (lv_at hl21 5 rfl) ?_
            refine lv_imul hx hb dX7_take_116 ?_
            refine k_top (y := 0) (by decide +kernel) ?_
            refine lv_bipush (v := 8) hx hb dX7_take_117 (by decide) ?_
            refine lv_iadd hx hb dX7_take_119 ?_
            refine k_top (y := 8) (by decide +kernel) ?_
            refine lv_dup2_11 hx hb dX7_take_120 rfl rfl ?_
            refine k_iald (v := (f 8)) kx hK hP23 1 rfl 8 rfl (by decide) (by decide) rfl dX7_take_121 ?_
            refine lv_iconst (v := 1) hx hb dX7_take_122 (by decide) ?_
            refine lv_iadd hx hb dX7_take_123 ?_
            refine k_iast kx hK hP23 hD24 hS22 1 rfl 8 rfl (by decide) (by decide) dX7_take_124 (fun H25 locs25 hP25 hD25 hS25 => ?_)
            have hP26 : va_P G.1 vwCl ([(h0, .inr (7, cM (upd Z 19 ((Z 19) - 1)) q1 q2 q3 q4 q5 q6 q7 q8 q9 q10 q11 sd)), (h1, .inl (G.2.1, 55, .inl (upd (upd f 43 0) 8 ((f 8) + 1))))]) H25 := hP25
            have hD27 : va_D A ([(h0, .inr (7, cM (upd Z 19 ((Z 19) - 1)) q1 q2 q3 q4 q5 q6 q7 q8 q9 q10 q11 sd)), (h1, .inl (G.2.1, 55, .inl (upd (upd f 43 0) 8 ((f 8) + 1))))]) := hD25
            have e0 : s_X7_take_0_Z Z f = upd Z 19 ((Z 19) - 1) := by rw [s_X7_take_0_Z, if_pos c1, if_pos c3, if_neg c6, if_pos c8, if_neg c10]
            have e1 : s_X7_take_0_f Z f = upd (upd f 43 0) 8 ((f 8) + 1) := by rw [s_X7_take_0_f, if_pos c1, if_pos c3, if_neg c6, if_pos c8, if_neg c10]
            exact k_vret kx hK hP26 hD27 hS25 (u := (upd Z 19 ((Z 19) - 1), upd (upd f 43 0) 8 ((f 8) + 1))) rfl ⟨e0.symm, e1.symm⟩ dX7_take_125
      · skip
        refine lv_iconst (v := 1) hx hb dX7_take_49 (by decide) ?_
        refine lv_goto (tgt := 54) hx hb dX7_take_50 (by decide) ?_
        refine lv_istore (lv' := [(5, .int 1), (4, .int 43), (3, .int 1), (0, .ref h0), (1, .ref h1), (2, .int 0)]) hx hb dX7_take_54 hl3 (by decide) rfl (fun ls28 hl28 => ?_)
        refine lv_aload_n hx hb dX7_take_56 rfl (lv_at hl28 4 rfl) ?_
        refine lv_bipush (v := 32) hx hb dX7_take_57 (by decide) ?_
        refine lv_iload_n hx hb dX7_take_59 rfl (lv_at hl28 2 rfl) ?_
        refine lv_iadd hx hb dX7_take_60 ?_
        refine k_top (y := 33) (by decide +kernel) ?_
        refine k_iald (v := (f 33)) kx hK hP8 1 rfl 33 rfl (by decide) (by decide) rfl dX7_take_61 ?_
        refine lv_iconst (v := 1) hx hb dX7_take_62 (by decide) ?_
        refine lv_icmp_ne (x := f 33) (y := 1) (tgt := 94) hx hb dX7_take_63 (by decide) (fun (c13 : ¬ (f 33 = 1)) => absurd c3 c13) (fun (c13 : f 33 = 1) => ?_)
        refine lv_aload_n hx hb dX7_take_66 rfl (lv_at hl28 3 rfl) ?_
        refine va_get (ci := 7) (v := .int (Z 18)) (C := RX7) (T := TX7) (N := 22) hx hb ht inX7 hown hK.1 hP8 0 rfl rfl 18 (by decide) (ht _ q_684) (fun _ h9 => h9) rfl dX7_take_67 ?_
        refine lv_iload_n hx hb dX7_take_70 rfl (lv_at hl28 5 rfl) ?_
        refine lv_icmp_ne (x := Z 18) (y := 0) (tgt := 94) hx hb dX7_take_71 (by decide) (fun (c14 : ¬ (Z 18 = 0)) => ?_) (fun (c14 : Z 18 = 0) => ?_)
        · skip
          refine lv_iload hx hb dX7_take_94 (lv_at hl28 0 rfl) ?_
          refine lv_if_eq (x := 1) (tgt := 112) hx hb dX7_take_96 (by decide) (fun (c15 : 1 = 0) => absurd c15 (by decide)) (fun (c15 : ¬ (1 = 0)) => ?_)
          refine lv_aload_n hx hb dX7_take_99 rfl (lv_at hl28 4 rfl) ?_
          refine lv_bipush (v := 16) hx hb dX7_take_100 (by decide) ?_
          refine lv_iload_n hx hb dX7_take_102 rfl (lv_at hl28 5 rfl) ?_
          refine lv_imul hx hb dX7_take_103 ?_
          refine k_top (y := 0) (by decide +kernel) ?_
          refine lv_iload hx hb dX7_take_104 (lv_at hl28 1 rfl) ?_
          refine k_callv (kRunS (As := [.ref h1, .int 0, .int 43]) (rest := []) kx (c_X7_hear_0 l G (upd f 43 0) h1) q_789 q_787 q_36 q_788 nX7_hear ⟨Nat.le_of_ble_eq_true rfl, Nat.le_of_ble_eq_true rfl⟩ hK hP8 hD9 (kCtx_places _ _ [1] rfl rfl) rfl hl28.1 (Nat.le_of_ble_eq_true rfl) dX7_take_106 ⟨Nat.zero_le _, Nat.zero_le _⟩) hP8 hD9 hS7 hA (kCtx_places _ _ [1] rfl rfl) (fun _ => rfl) (fun F17 H29 locs29 hw hP29 hD29 hS29 => ?_)
          have hF17 : s_X7_hear_0_f (upd f 43 0) = F17 := (show F17 = s_X7_hear_0_f (upd f 43 0) from hw).symm
          have hP30 : va_P G.1 vwCl ([(h0, .inr (7, cM Z q1 q2 q3 q4 q5 q6 q7 q8 q9 q10 q11 sd)), (h1, .inl (G.2.1, 55, .inl F17))]) H29 := hP29
          have hD31 : va_D A ([(h0, .inr (7, cM Z q1 q2 q3 q4 q5 q6 q7 q8 q9 q10 q11 sd)), (h1, .inl (G.2.1, 55, .inl F17))]) := hD29
          refine lv_goto (tgt := 125) hx hb dX7_take_109 (by decide) ?_
          have e0 : s_X7_take_0_Z Z f = Z := by rw [s_X7_take_0_Z]; (try rw [hF17]); rw [if_pos c1, if_pos c3, if_pos c6, if_neg c14]
          have e1 : s_X7_take_0_f Z f = F17 := by rw [s_X7_take_0_f]; (try rw [hF17]); rw [if_pos c1, if_pos c3, if_pos c6, if_neg c14]
          exact k_vret kx hK hP30 hD31 hS29 (u := (Z, F17)) rfl ⟨e0.symm, e1.symm⟩ dX7_take_125
        · skip
          refine lv_aload_n hx hb dX7_take_74 rfl (lv_at hl28 3 rfl) ?_
          refine va_get (ci := 7) (v := .int (Z 19)) (C := RX7) (T := TX7) (N := 22) hx hb ht inX7 hown hK.1 hP8 0 rfl rfl 19 (by decide) (ht _ q_685) (fun _ h9 => h9) rfl dX7_take_75 ?_
          refine lv_if_le (x := Z 19) (tgt := 94) hx hb dX7_take_78 (by decide) (fun (c18 : Z 19 ≤ 0) => ?_) (fun (c18 : ¬ (Z 19 ≤ 0)) => ?_)
          · skip
            refine lv_iload hx hb dX7_take_94 (lv_at hl28 0 rfl) ?_
            refine lv_if_eq (x := 1) (tgt := 112) hx hb dX7_take_96 (by decide) (fun (c19 : 1 = 0) => absurd c19 (by decide)) (fun (c19 : ¬ (1 = 0)) => ?_)
            refine lv_aload_n hx hb dX7_take_99 rfl (lv_at hl28 4 rfl) ?_
            refine lv_bipush (v := 16) hx hb dX7_take_100 (by decide) ?_
            refine lv_iload_n hx hb dX7_take_102 rfl (lv_at hl28 5 rfl) ?_
            refine lv_imul hx hb dX7_take_103 ?_
            refine k_top (y := 0) (by decide +kernel) ?_
            refine lv_iload hx hb dX7_take_104 (lv_at hl28 1 rfl) ?_
            refine k_callv (kRunS (As := [.ref h1, .int 0, .int 43]) (rest := []) kx (c_X7_hear_0 l G (upd f 43 0) h1) q_789 q_787 q_36 q_788 nX7_hear ⟨Nat.le_of_ble_eq_true rfl, Nat.le_of_ble_eq_true rfl⟩ hK hP8 hD9 (kCtx_places _ _ [1] rfl rfl) rfl hl28.1 (Nat.le_of_ble_eq_true rfl) dX7_take_106 ⟨Nat.zero_le _, Nat.zero_le _⟩) hP8 hD9 hS7 hA (kCtx_places _ _ [1] rfl rfl) (fun _ => rfl) (fun F21 H32 locs32 hw hP32 hD32 hS32 => ?_)
            have hF21 : s_X7_hear_0_f (upd f 43 0) = F21 := (show F21 = s_X7_hear_0_f (upd f 43 0) from hw).symm
            have hP33 : va_P G.1 vwCl ([(h0, .inr (7, cM Z q1 q2 q3 q4 q5 q6 q7 q8 q9 q10 q11 sd)), (h1, .inl (G.2.1, 55, .inl F21))]) H32 := hP32
            have hD34 : va_D A ([(h0, .inr (7, cM Z q1 q2 q3 q4 q5 q6 q7 q8 q9 q10 q11 sd)), (h1, .inl (G.2.1, 55, .inl F21))]) := hD32
            refine lv_goto (tgt := 125) hx hb dX7_take_109 (by decide) ?_
            have e0 : s_X7_take_0_Z Z f = Z := by rw [s_X7_take_0_Z]; (try rw [hF21]); rw [if_pos c1, if_pos c3, if_pos c6, if_pos c14, if_pos c18]
            have e1 : s_X7_take_0_f Z f = F21 := by rw [s_X7_take_0_f]; (try rw [hF21]); rw [if_pos c1, if_pos c3, if_pos c6, if_pos c14, if_pos c18]
            exact k_vret kx hK hP33 hD34 hS32 (u := (Z, F21)) rfl ⟨e0.symm, e1.symm⟩ dX7_take_125
          · skip
            refine lv_iconst (v := 0) hx hb dX7_take_81 (by decide) ?_
            refine lv_istore (lv' := [(5, .int 0), (4, .int 43), (3, .int 1), (0, .ref h0), (1, .ref h1), (2, .int 0)]) hx hb dX7_take_82 hl28 (by decide) rfl (fun ls35 hl35 => ?_)
            refine lv_aload_n hx hb dX7_take_84 rfl (lv_at hl35 3 rfl) ?_
            refine lv_dup hx hb dX7_take_85 rfl ?_
            refine va_get (ci := 7) (v := .int (Z 19)) (C := RX7) (T := TX7) (N := 22) hx hb ht inX7 hown hK.1 hP8 0 rfl rfl 19 (by decide) (ht _ q_685) (fun _ h9 => h9) rfl dX7_take_86 ?_
            refine lv_iconst (v := 1) hx hb dX7_take_89 (by decide) ?_
            refine lv_isub hx hb dX7_take_90 ?_
            refine va_put (ci := 7) (v := .int ((Z 19) - 1)) (ty := .int) (C := RX7) (T := TX7) (N := 22) hx hb ht inX7 tyX7 tyX7_ok nmX7 hown hK.1 hP8 hD9 hS7 0 rfl rfl 19 (by decide) (ht _ q_685) (fun _ h9 => h9) rfl (by decide +kernel) rfl rfl (Nat.le_of_ble_eq_true rfl) dX7_take_91 (fun H36 locs36 hP36 hD36 hS36 => ?_)
            have hP37 : va_P G.1 vwCl ([(h0, .inr (7, cM (upd Z 19 ((Z 19) - 1)) q1 q2 q3 q4 q5 q6 q7 q8 q9 q10 q11 sd)), (h1, .inl (G.2.1, 55, .inl (upd f 43 0)))]) H36 := hP36
            have hD38 : va_D A ([(h0, .inr (7, cM (upd Z 19 ((Z 19) - 1)) q1 q2 q3 q4 q5 q6 q7 q8 q9 q10 q11 sd)), (h1, .inl (G.2.1, 55, .inl (upd f 43 0)))]) := hD36
            refine lv_iload hx hb dX7_take_94 (lv_at hl35 0 rfl) ?_
            refine lv_if_eq (x := 0) (tgt := 112) hx hb dX7_take_96 (by decide) (fun (c22 : 0 = 0) => ?_) (fun (c22 : ¬ (0 = 0)) => absurd (by decide) c22)
            refine lv_aload_n hx hb dX7_take_112 rfl (lv_at hl35 4 rfl) ?_
            refine lv_bipush (v := 16) hx hb dX7_take_113 (by decide) ?_
            refine lv_iload_n hx hb dX7_take_115 rfl (lv_at hl35 5 rfl) ?_
            refine lv_imul hx hb dX7_take_116 ?_
            refine k_top (y := 0) (by decide +kernel) ?_
            refine lv_bipush (v := 8) hx hb dX7_take_117 (by decide) ?_
            refine lv_iadd hx hb dX7_take_119 ?_
            refine k_top (y := 8) (by decide +kernel) ?_
            refine lv_dup2_11 hx hb dX7_take_120 rfl rfl ?_
            refine k_iald (v := (f 8)) kx hK hP37 1 rfl 8 rfl (by decide) (by decide) rfl dX7_take_121 ?_
            refine lv_iconst (v := 1) hx hb dX7_take_122 (by decide) ?_
            refine lv_iadd hx hb dX7_take_123 ?_
            refine k_iast kx hK hP37 hD38 hS36 1 rfl 8 rfl (by decide) (by decide) dX7_take_124 (fun H39 locs39 hP39 hD39 hS39 => ?_)
            have hP40 : va_P G.1 vwCl ([(h0, .inr (7, cM (upd Z 19 ((Z 19) - 1)) q1 q2 q3 q4 q5 q6 q7 q8 q9 q10 q11 sd)), (h1, .inl (G.2.1, 55, .inl (upd (upd f 43 0) 8 ((f 8) + 1))))]) H39 := hP39
            have hD41 : va_D A ([(h0, .inr (7, cM (upd Z 19 ((Z 19) - 1)) q1 q2 q3 q4 q5 q6 q7 q8 q9 q10 q11 sd)), (h1, .inl (G.2.1, 55, .inl (upd (upd f 43 0) 8 ((f 8) + 1))))]) := hD39
            have e0 : s_X7_take_0_Z Z f = upd Z 19 ((Z 19) - 1) := by rw [s_X7_take_0_Z, if_pos c1, if_pos c3, if_pos c6, if_pos c14, if_neg c18]
            have e1 : s_X7_take_0_f Z f = upd (upd f 43 0) 8 ((f 8) + 1) := by rw [s_X7_take_0_f, if_pos c1, if_pos c3, if_pos c6, if_pos c14, if_neg c18]
            exact k_vret kx hK hP40 hD41 hS39 (u := (upd Z 19 ((Z 19) - 1), upd (upd f 43 0) 8 ((f 8) + 1))) rfl ⟨e0.symm, e1.symm⟩ dX7_take_125

def s_X7_take_1_Z (Z : Nat → Int32) (f : Nat → Int32) : Nat → Int32 := if f 34 = 1 then (if f 32 = 1 then (if f 42 = 0 then (if Z 18 = 1 then (if Z 19 ≤ 0 then Z else upd Z 19 ((Z 19) - 1)) else Z) else if Z 18 = 1 then (if Z 19 ≤ 0 then Z else upd Z 19 ((Z 19) - 1)) else Z) else Z) else Z
def s_X7_take_1_f (Z : Nat → Int32) (f : Nat → Int32) : Nat → Int32 := if f 34 = 1 then (if f 32 = 1 then (if f 42 = 0 then (if Z 18 = 1 then (if Z 19 ≤ 0 then (s_X7_hear_16_f (upd f 34 0)) else upd (upd f 34 0) 24 ((f 24) + 1)) else s_X7_hear_16_f (upd f 34 0)) else if Z 18 = 1 then (if Z 19 ≤ 0 then (upd (upd f 34 0) 24 ((f 24) + 1)) else upd (upd f 34 0) 24 ((f 24) + 1)) else upd (upd f 34 0) 24 ((f 24) + 1)) else upd (upd f 34 0) 24 ((f 24) + 1)) else upd f 24 ((f 24) + 1)
set_option maxHeartbeats 4000000 in
set_option maxRecDepth 100000 in
theorem c_X7_take_1 (l : Launch) (G : kG) (Z : Nat → Int32) (sd : Int64) (h0 : Nat) (q1 : Nat) (q2 : Nat) (q3 : Nat) (q4 : Nat) (q5 : Nat) (q6 : Nat) (q7 : Nat) (q8 : Nat) (q9 : Nat) (q10 : Nat) (q11 : Nat) (f : Nat → Int32) (h1 : Nat) : cG l G yX7_take cX7_take 6 none 3 [.ref h0, .ref h1, .int 1] ([(h0, .inr (7, cM Z q1 q2 q3 q4 q5 q6 q7 q8 q9 q10 q11 sd)), (h1, .inl (G.2.1, 55, .inl f))]) (qV G (fun u : ((Nat → Int32) × (Nat → Int32)) => u.1 = s_X7_take_1_Z Z f ∧ u.2 = s_X7_take_1_f Z f) (fun u => [(h0, .inr (7, cM u.1 q1 q2 q3 q4 q5 q6 q7 q8 q9 q10 q11 sd)), (h1, .inl (G.2.1, 55, .inl u.2))])) := by
  refine kintro (by decide) (Nat.le_of_ble_eq_true rfl) ?_
  intro p e s m args below meth c A ls kx hK hP hD hS hA hl
  have kx : kX p s m args meth c cX7_take 6 none RX7 := kx
  have hx := kx.1
  have hb := kx.2.1
  have hown := kx.2.2.2.2.1
  have ht := kx.2.2.2.2.2.2
  have hl : lv_has ls 6 [(0, .ref h0), (1, .ref h1), (2, .int 1)] := hl
  refine lv_iconst (v := 1) hx hb dX7_take_0 (by decide) ?_
  refine lv_iload_n hx hb dX7_take_1 rfl (lv_at hl 2 rfl) ?_
  refine lv_isub hx hb dX7_take_2 ?_
  refine k_top (y := 0) (by decide +kernel) ?_
  refine lv_istore_n (lv' := [(3, .int 0), (0, .ref h0), (1, .ref h1), (2, .int 1)]) hx hb dX7_take_3 rfl hl (by decide) rfl (fun ls1 hl1 => ?_)
  refine lv_bipush (v := 34) hx hb dX7_take_4 (by decide) ?_
  refine lv_bipush (v := 9) hx hb dX7_take_6 (by decide) ?_
  refine lv_iload_n hx hb dX7_take_8 rfl (lv_at hl1 0 rfl) ?_
  refine lv_imul hx hb dX7_take_9 ?_
  refine k_top (y := 0) (by decide +kernel) ?_
  refine lv_iadd hx hb dX7_take_10 ?_
  refine k_top (y := 34) (by decide +kernel) ?_
  refine lv_istore (lv' := [(4, .int 34), (3, .int 0), (0, .ref h0), (1, .ref h1), (2, .int 1)]) hx hb dX7_take_11 hl1 (by decide) rfl (fun ls2 hl2 => ?_)
  refine lv_iconst (v := 0) hx hb dX7_take_13 (by decide) ?_
  refine lv_istore (lv' := [(5, .int 0), (4, .int 34), (3, .int 0), (0, .ref h0), (1, .ref h1), (2, .int 1)]) hx hb dX7_take_14 hl2 (by decide) rfl (fun ls3 hl3 => ?_)
  refine lv_aload_n hx hb dX7_take_16 rfl (lv_at hl3 4 rfl) ?_
  refine lv_iload hx hb dX7_take_17 (lv_at hl3 1 rfl) ?_
  refine k_iald (v := (f 34)) kx hK hP 1 rfl 34 rfl (by decide) (by decide) rfl dX7_take_19 ?_
  refine lv_iconst (v := 1) hx hb dX7_take_20 (by decide) ?_
  refine lv_icmp_ne (x := f 34) (y := 1) (tgt := 94) hx hb dX7_take_21 (by decide) (fun (c1 : ¬ (f 34 = 1)) => ?_) (fun (c1 : f 34 = 1) => ?_)
  · skip
    refine lv_iload hx hb dX7_take_94 (lv_at hl3 0 rfl) ?_
    refine lv_if_eq (x := 0) (tgt := 112) hx hb dX7_take_96 (by decide) (fun (c2 : 0 = 0) => ?_) (fun (c2 : ¬ (0 = 0)) => absurd (by decide) c2)
    refine lv_aload_n hx hb dX7_take_112 rfl (lv_at hl3 4 rfl) ?_
    refine lv_bipush (v := 16) hx hb dX7_take_113 (by decide) ?_
    refine lv_iload_n hx hb dX7_take_115 rfl (lv_at hl3 5 rfl) ?_
    refine lv_imul hx hb dX7_take_116 ?_
    refine k_top (y := 16) (by decide +kernel) ?_
    refine lv_bipush (v := 8) hx hb dX7_take_117 (by decide) ?_
    refine lv_iadd hx hb dX7_take_119 ?_
    refine k_top (y := 24) (by decide +kernel) ?_
    refine lv_dup2_11 hx hb dX7_take_120 rfl rfl ?_
    refine k_iald (v := (f 24)) kx hK hP 1 rfl 24 rfl (by decide) (by decide) rfl dX7_take_121 ?_
    refine lv_iconst (v := 1) hx hb dX7_take_122 (by decide) ?_
    refine lv_iadd hx hb dX7_take_123 ?_
    refine k_iast kx hK hP hD hS 1 rfl 24 rfl (by decide) (by decide) dX7_take_124 (fun H4 locs4 hP4 hD4 hS4 => ?_)
    have hP5 : va_P G.1 vwCl ([(h0, .inr (7, cM Z q1 q2 q3 q4 q5 q6 q7 q8 q9 q10 q11 sd)), (h1, .inl (G.2.1, 55, .inl (upd f 24 ((f 24) + 1))))]) H4 := hP4
    have hD6 : va_D A ([(h0, .inr (7, cM Z q1 q2 q3 q4 q5 q6 q7 q8 q9 q10 q11 sd)), (h1, .inl (G.2.1, 55, .inl (upd f 24 ((f 24) + 1))))]) := hD4
    have e0 : s_X7_take_1_Z Z f = Z := by rw [s_X7_take_1_Z, if_neg c1]
    have e1 : s_X7_take_1_f Z f = upd f 24 ((f 24) + 1) := by rw [s_X7_take_1_f, if_neg c1]
    exact k_vret kx hK hP5 hD6 hS4 (u := (Z, upd f 24 ((f 24) + 1))) rfl ⟨e0.symm, e1.symm⟩ dX7_take_125
  · skip
    refine lv_aload_n hx hb dX7_take_24 rfl (lv_at hl3 4 rfl) ?_
    refine lv_iload hx hb dX7_take_25 (lv_at hl3 1 rfl) ?_
    refine lv_iconst (v := 0) hx hb dX7_take_27 (by decide) ?_
    refine k_iast kx hK hP hD hS 1 rfl 34 rfl (by decide) (by decide) dX7_take_28 (fun H7 locs7 hP7 hD7 hS7 => ?_)
    have hP8 : va_P G.1 vwCl ([(h0, .inr (7, cM Z q1 q2 q3 q4 q5 q6 q7 q8 q9 q10 q11 sd)), (h1, .inl (G.2.1, 55, .inl (upd f 34 0)))]) H7 := hP7
    have hD9 : va_D A ([(h0, .inr (7, cM Z q1 q2 q3 q4 q5 q6 q7 q8 q9 q10 q11 sd)), (h1, .inl (G.2.1, 55, .inl (upd f 34 0)))]) := hD7
    refine lv_aload_n hx hb dX7_take_29 rfl (lv_at hl3 4 rfl) ?_
    refine lv_bipush (v := 32) hx hb dX7_take_30 (by decide) ?_
    refine lv_iload_n hx hb dX7_take_32 rfl (lv_at hl3 2 rfl) ?_
    refine lv_iadd hx hb dX7_take_33 ?_
    refine k_top (y := 32) (by decide +kernel) ?_
    refine k_iald (v := (f 32)) kx hK hP8 1 rfl 32 rfl (by decide) (by decide) rfl dX7_take_34 ?_
    refine lv_iconst (v := 1) hx hb dX7_take_35 (by decide) ?_
    refine lv_icmp_ne (x := f 32) (y := 1) (tgt := 53) hx hb dX7_take_36 (by decide) (fun (c3 : ¬ (f 32 = 1)) => ?_) (fun (c3 : f 32 = 1) => ?_)
    · skip
      refine lv_iconst (v := 0) hx hb dX7_take_53 (by decide) ?_
      refine lv_istore (lv' := [(5, .int 0), (4, .int 34), (3, .int 0), (0, .ref h0), (1, .ref h1), (2, .int 1)]) hx hb dX7_take_54 hl3 (by decide) rfl (fun ls10 hl10 => ?_)
      refine lv_aload_n hx hb dX7_take_56 rfl (lv_at hl10 4 rfl) ?_
      refine lv_bipush (v := 32) hx hb dX7_take_57 (by decide) ?_
      refine lv_iload_n hx hb dX7_take_59 rfl (lv_at hl10 2 rfl) ?_
      refine lv_iadd hx hb dX7_take_60 ?_
      refine k_top (y := 32) (by decide +kernel) ?_
      refine k_iald (v := (f 32)) kx hK hP8 1 rfl 32 rfl (by decide) (by decide) rfl dX7_take_61 ?_
      refine lv_iconst (v := 1) hx hb dX7_take_62 (by decide) ?_
      refine lv_icmp_ne (x := f 32) (y := 1) (tgt := 94) hx hb dX7_take_63 (by decide) (fun (c4 : ¬ (f 32 = 1)) => ?_) (fun (c4 : f 32 = 1) => absurd c4 c3)
      refine lv_iload hx hb dX7_take_94 (lv_at hl10 0 rfl) ?_
      refine lv_if_eq (x := 0) (tgt := 112) hx hb dX7_take_96 (by decide) (fun (c5 : 0 = 0) => ?_) (fun (c5 : ¬ (0 = 0)) => absurd (by decide) c5)
      refine lv_aload_n hx hb dX7_take_112 rfl (lv_at hl10 4 rfl) ?_
      refine lv_bipush (v := 16) hx hb dX7_take_113 (by decide) ?_
      refine lv_iload_n hx hb dX7_take_115 rfl (lv_at hl10 5 rfl) ?_
      refine lv_imul hx hb dX7_take_116 ?_
      refine k_top (y := 16) (by decide +kernel) ?_
      refine lv_bipush (v := 8) hx hb dX7_take_117 (by decide) ?_
      refine lv_iadd hx hb dX7_take_119 ?_
      refine k_top (y := 24) (by decide +kernel) ?_
      refine lv_dup2_11 hx hb dX7_take_120 rfl rfl ?_
      refine k_iald (v := (f 24)) kx hK hP8 1 rfl 24 rfl (by decide) (by decide) rfl dX7_take_121 ?_
      refine lv_iconst (v := 1) hx hb dX7_take_122 (by decide) ?_
      refine lv_iadd hx hb dX7_take_123 ?_
      refine k_iast kx hK hP8 hD9 hS7 1 rfl 24 rfl (by decide) (by decide) dX7_take_124 (fun H11 locs11 hP11 hD11 hS11 => ?_)
      have hP12 : va_P G.1 vwCl ([(h0, .inr (7, cM Z q1 q2 q3 q4 q5 q6 q7 q8 q9 q10 q11 sd)), (h1, .inl (G.2.1, 55, .inl (upd (upd f 34 0) 24 ((f 24) + 1))))]) H11 := hP11
      have hD13 : va_D A ([(h0, .inr (7, cM Z q1 q2 q3 q4 q5 q6 q7 q8 q9 q10 q11 sd)), (h1, .inl (G.2.1, 55, .inl (upd (upd f 34 0) 24 ((f 24) + 1))))]) := hD11
      have e0 : s_X7_take_1_Z Z f = Z := by rw [s_X7_take_1_Z, if_pos c1, if_neg c3]
      have e1 : s_X7_take_1_f Z f = upd (upd f 34 0) 24 ((f 24) + 1) := by rw [s_X7_take_1_f, if_pos c1, if_neg c3]
      exact k_vret kx hK hP12 hD13 hS11 (u := (Z, upd (upd f 34 0) 24 ((f 24) + 1))) rfl ⟨e0.symm, e1.symm⟩ dX7_take_125
    · skip
      refine lv_aload_n hx hb dX7_take_39 rfl (lv_at hl3 4 rfl) ?_
      refine lv_iload hx hb dX7_take_40 (lv_at hl3 1 rfl) ?_
      refine lv_bipush (v := 8) hx hb dX7_take_42 (by decide) ?_
      refine lv_iadd hx hb dX7_take_44 ?_
      refine k_top (y := 42) (by decide +kernel) ?_
      refine k_iald (v := (f 42)) kx hK hP8 1 rfl 42 rfl (by decide) (by decide) rfl dX7_take_45 ?_
      refine lv_if_ne (x := f 42) (tgt := 53) hx hb dX7_take_46 (by decide) (fun (c6 : ¬ (f 42 = 0)) => ?_) (fun (c6 : f 42 = 0) => ?_)
      · skip
        refine lv_iconst (v := 0) hx hb dX7_take_53 (by decide) ?_
        refine lv_istore (lv' := [(5, .int 0), (4, .int 34), (3, .int 0), (0, .ref h0), (1, .ref h1), (2, .int 1)]) hx hb dX7_take_54 hl3 (by decide) rfl (fun ls14 hl14 => ?_)
        refine lv_aload_n hx hb dX7_take_56 rfl (lv_at hl14 4 rfl) ?_
        refine lv_bipush (v := 32) hx hb dX7_take_57 (by decide) ?_
        refine lv_iload_n hx hb dX7_take_59 rfl (lv_at hl14 2 rfl) ?_
        refine lv_iadd hx hb dX7_take_60 ?_
        refine k_top (y := 32) (by decide +kernel) ?_
        refine k_iald (v := (f 32)) kx hK hP8 1 rfl 32 rfl (by decide) (by decide) rfl dX7_take_61 ?_
        refine lv_iconst (v := 1) hx hb dX7_take_62 (by decide) ?_
        refine lv_icmp_ne (x := f 32) (y := 1) (tgt := 94) hx hb dX7_take_63 (by decide) (fun (c7 : ¬ (f 32 = 1)) => absurd c3 c7) (fun (c7 : f 32 = 1) => ?_)
        refine lv_aload_n hx hb dX7_take_66 rfl (lv_at hl14 3 rfl) ?_
        refine va_get (ci := 7) (v := .int (Z 18)) (C := RX7) (T := TX7) (N := 22) hx hb ht inX7 hown hK.1 hP8 0 rfl rfl 18 (by decide) (ht _ q_684) (fun _ h9 => h9) rfl dX7_take_67 ?_
        refine lv_iload_n hx hb dX7_take_70 rfl (lv_at hl14 5 rfl) ?_
        refine lv_icmp_ne (x := Z 18) (y := 1) (tgt := 94) hx hb dX7_take_71 (by decide) (fun (c8 : ¬ (Z 18 = 1)) => ?_) (fun (c8 : Z 18 = 1) => ?_)
        · skip
          refine lv_iload hx hb dX7_take_94 (lv_at hl14 0 rfl) ?_
          refine lv_if_eq (x := 0) (tgt := 112) hx hb dX7_take_96 (by decide) (fun (c9 : 0 = 0) => ?_) (fun (c9 : ¬ (0 = 0)) => absurd (by decide) c9)
          refine lv_aload_n hx hb dX7_take_112 rfl (lv_at hl14 4 rfl) ?_
          refine lv_bipush (v := 16) hx hb dX7_take_113 (by decide) ?_
          refine lv_iload_n hx hb dX7_take_115 rfl (lv_at hl14 5 rfl) ?_
          refine lv_imul hx hb dX7_take_116 ?_
          refine k_top (y := 16) (by decide +kernel) ?_
          refine lv_bipush (v := 8) hx hb dX7_take_117 (by decide) ?_
          refine lv_iadd hx hb dX7_take_119 ?_
          refine k_top (y := 24) (by decide +kernel) ?_
          refine lv_dup2_11 hx hb dX7_take_120 rfl rfl ?_
          refine k_iald (v := (f 24)) kx hK hP8 1 rfl 24 rfl (by decide) (by decide) rfl dX7_take_121 ?_
          refine lv_iconst (v := 1) hx hb dX7_take_122 (by decide) ?_
          refine lv_iadd hx hb dX7_take_123 ?_
          refine k_iast kx hK hP8 hD9 hS7 1 rfl 24 rfl (by decide) (by decide) dX7_take_124 (fun H15 locs15 hP15 hD15 hS15 => ?_)
          have hP16 : va_P G.1 vwCl ([(h0, .inr (7, cM Z q1 q2 q3 q4 q5 q6 q7 q8 q9 q10 q11 sd)), (h1, .inl (G.2.1, 55, .inl (upd (upd f 34 0) 24 ((f 24) + 1))))]) H15 := hP15
          have hD17 : va_D A ([(h0, .inr (7, cM Z q1 q2 q3 q4 q5 q6 q7 q8 q9 q10 q11 sd)), (h1, .inl (G.2.1, 55, .inl (upd (upd f 34 0) 24 ((f 24) + 1))))]) := hD15
          have e0 : s_X7_take_1_Z Z f = Z := by rw [s_X7_take_1_Z, if_pos c1, if_pos c3, if_neg c6, if_neg c8]
          have e1 : s_X7_take_1_f Z f = upd (upd f 34 0) 24 ((f 24) + 1) := by rw [s_X7_take_1_f, if_pos c1, if_pos c3, if_neg c6, if_neg c8]
          exact k_vret kx hK hP16 hD17 hS15 (u := (Z, upd (upd f 34 0) 24 ((f 24) + 1))) rfl ⟨e0.symm, e1.symm⟩ dX7_take_125
        · skip
          refine lv_aload_n hx hb dX7_take_74 rfl (lv_at hl14 3 rfl) ?_
          refine va_get (ci := 7) (v := .int (Z 19)) (C := RX7) (T := TX7) (N := 22) hx hb ht inX7 hown hK.1 hP8 0 rfl rfl 19 (by decide) (ht _ q_685) (fun _ h9 => h9) rfl dX7_take_75 ?_
          refine lv_if_le (x := Z 19) (tgt := 94) hx hb dX7_take_78 (by decide) (fun (c10 : Z 19 ≤ 0) => ?_) (fun (c10 : ¬ (Z 19 ≤ 0)) => ?_)
          · skip
            refine lv_iload hx hb dX7_take_94 (lv_at hl14 0 rfl) ?_
            refine lv_if_eq (x := 0) (tgt := 112) hx hb dX7_take_96 (by decide) (fun (c11 : 0 = 0) => ?_) (fun (c11 : ¬ (0 = 0)) => absurd (by decide) c11)
            refine lv_aload_n hx hb dX7_take_112 rfl (lv_at hl14 4 rfl) ?_
            refine lv_bipush (v := 16) hx hb dX7_take_113 (by decide) ?_
            refine lv_iload_n hx hb dX7_take_115 rfl (lv_at hl14 5 rfl) ?_
            refine lv_imul hx hb dX7_take_116 ?_
            refine k_top (y := 16) (by decide +kernel) ?_
            refine lv_bipush (v := 8) hx hb dX7_take_117 (by decide) ?_
            refine lv_iadd hx hb dX7_take_119 ?_
            refine k_top (y := 24) (by decide +kernel) ?_
            refine lv_dup2_11 hx hb dX7_take_120 rfl rfl ?_
            refine k_iald (v := (f 24)) kx hK hP8 1 rfl 24 rfl (by decide) (by decide) rfl dX7_take_121 ?_
            refine lv_iconst (v := 1) hx hb dX7_take_122 (by decide) ?_
            refine lv_iadd hx hb dX7_take_123 ?_
            refine k_iast kx hK hP8 hD9 hS7 1 rfl 24 rfl (by decide) (by decide) dX7_take_124 (fun H18 locs18 hP18 hD18 hS18 => ?_)
            have hP19 : va_P G.1 vwCl ([(h0, .inr (7, cM Z q1 q2 q3 q4 q5 q6 q7 q8 q9 q10 q11 sd)), (h1, .inl (G.2.1, 55, .inl (upd (upd f 34 0) 24 ((f 24) + 1))))]) H18 := hP18
            have hD20 : va_D A ([(h0, .inr (7, cM Z q1 q2 q3 q4 q5 q6 q7 q8 q9 q10 q11 sd)), (h1, .inl (G.2.1, 55, .inl (upd (upd f 34 0) 24 ((f 24) + 1))))]) := hD18
            have e0 : s_X7_take_1_Z Z f = Z := by rw [s_X7_take_1_Z, if_pos c1, if_pos c3, if_neg c6, if_pos c8, if_pos c10]
            have e1 : s_X7_take_1_f Z f = upd (upd f 34 0) 24 ((f 24) + 1) := by rw [s_X7_take_1_f, if_pos c1, if_pos c3, if_neg c6, if_pos c8, if_pos c10]
            exact k_vret kx hK hP19 hD20 hS18 (u := (Z, upd (upd f 34 0) 24 ((f 24) + 1))) rfl ⟨e0.symm, e1.symm⟩ dX7_take_125
          · skip
            refine lv_iconst (v := 0) hx hb dX7_take_81 (by decide) ?_
            refine lv_istore (lv' := [(5, .int 0), (4, .int 34), (3, .int 0), (0, .ref h0), (1, .ref h1), (2, .int 1)]) hx hb dX7_take_82 hl14 (by decide) rfl (fun ls21 hl21 => ?_)
            refine lv_aload_n hx hb dX7_take_84 rfl (lv_at hl21 3 rfl) ?_
            refine lv_dup hx hb dX7_take_85 rfl ?_
            refine va_get (ci := 7) (v := .int (Z 19)) (C := RX7) (T := TX7) (N := 22) hx hb ht inX7 hown hK.1 hP8 0 rfl rfl 19 (by decide) (ht _ q_685) (fun _ h9 => h9) rfl dX7_take_86 ?_
            refine lv_iconst (v := 1) hx hb dX7_take_89 (by decide) ?_
            refine lv_isub hx hb dX7_take_90 ?_
            refine va_put (ci := 7) (v := .int ((Z 19) - 1)) (ty := .int) (C := RX7) (T := TX7) (N := 22) hx hb ht inX7 tyX7 tyX7_ok nmX7 hown hK.1 hP8 hD9 hS7 0 rfl rfl 19 (by decide) (ht _ q_685) (fun _ h9 => h9) rfl (by decide +kernel) rfl rfl (Nat.le_of_ble_eq_true rfl) dX7_take_91 (fun H22 locs22 hP22 hD22 hS22 => ?_)
            have hP23 : va_P G.1 vwCl ([(h0, .inr (7, cM (upd Z 19 ((Z 19) - 1)) q1 q2 q3 q4 q5 q6 q7 q8 q9 q10 q11 sd)), (h1, .inl (G.2.1, 55, .inl (upd f 34 0)))]) H22 := hP22
            have hD24 : va_D A ([(h0, .inr (7, cM (upd Z 19 ((Z 19) - 1)) q1 q2 q3 q4 q5 q6 q7 q8 q9 q10 q11 sd)), (h1, .inl (G.2.1, 55, .inl (upd f 34 0)))]) := hD22
            refine lv_iload hx hb dX7_take_94 (lv_at hl21 0 rfl) ?_
            refine lv_if_eq (x := 0) (tgt := 112) hx hb dX7_take_96 (by decide) (fun (c12 : 0 = 0) => ?_) (fun (c12 : ¬ (0 = 0)) => absurd (by decide) c12)
            refine lv_aload_n hx hb dX7_take_112 rfl (lv_at hl21 4 rfl) ?_
            refine lv_bipush (v := 16) hx hb dX7_take_113 (by decide) ?_
            refine lv_iload_n hx hb dX7_take_115 rfl (lv_at hl21 5 rfl) ?_
            refine lv_imul hx hb dX7_take_116 ?_
            refine k_top (y := 16) (by decide +kernel) ?_
            refine lv_bipush (v := 8) hx hb dX7_take_117 (by decide) ?_
            refine lv_iadd hx hb dX7_take_119 ?_
            refine k_top (y := 24) (by decide +kernel) ?_
            refine lv_dup2_11 hx hb dX7_take_120 rfl rfl ?_
            refine k_iald (v := (f 24)) kx hK hP23 1 rfl 24 rfl (by decide) (by decide) rfl dX7_take_121 ?_
            refine lv_iconst (v := 1) hx hb dX7_take_122 (by decide) ?_
            refine lv_iadd hx hb dX7_take_123 ?_
            refine k_iast kx hK hP23 hD24 hS22 1 rfl 24 rfl (by decide) (by decide) dX7_take_124 (fun H25 locs25 hP25 hD25 hS25 => ?_)
            have hP26 : va_P G.1 vwCl ([(h0, .inr (7, cM (upd Z 19 ((Z 19) - 1)) q1 q2 q3 q4 q5 q6 q7 q8 q9 q10 q11 sd)), (h1, .inl (G.2.1, 55, .inl (upd (upd f 34 0) 24 ((f 24) + 1))))]) H25 := hP25
            have hD27 : va_D A ([(h0, .inr (7, cM (upd Z 19 ((Z 19) - 1)) q1 q2 q3 q4 q5 q6 q7 q8 q9 q10 q11 sd)), (h1, .inl (G.2.1, 55, .inl (upd (upd f 34 0) 24 ((f 24) + 1))))]) := hD25
            have e0 : s_X7_take_1_Z Z f = upd Z 19 ((Z 19) - 1) := by rw [s_X7_take_1_Z, if_pos c1, if_pos c3, if_neg c6, if_pos c8, if_neg c10]
            have e1 : s_X7_take_1_f Z f = upd (upd f 34 0) 24 ((f 24) + 1) := by rw [s_X7_take_1_f, if_pos c1, if_pos c3, if_neg c6, if_pos c8, if_neg c10]
            exact k_vret kx hK hP26 hD27 hS25 (u := (upd Z 19 ((Z 19) - 1), upd (upd f 34 0) 24 ((f 24) + 1))) rfl ⟨e0.symm, e1.symm⟩ dX7_take_125
      · skip
        refine lv_iconst (v := 1) hx hb dX7_take_49 (by decide) ?_
        refine lv_goto (tgt := 54) hx hb dX7_take_50 (by decide) ?_
        refine lv_istore (lv' := [(5, .int 1), (4, .int 34), (3, .int 0), (0, .ref h0), (1, .ref h1), (2, .int 1)]) hx hb dX7_take_54 hl3 (by decide) rfl (fun ls28 hl28 => ?_)
        refine lv_aload_n hx hb dX7_take_56 rfl (lv_at hl28 4 rfl) ?_
        refine lv_bipush (v := 32) hx hb dX7_take_57 (by decide) ?_
        refine lv_iload_n hx hb dX7_take_59 rfl (lv_at hl28 2 rfl) ?_
        refine lv_iadd hx hb dX7_take_60 ?_
        refine k_top (y := 32) (by decide +kernel) ?_
        refine k_iald (v := (f 32)) kx hK hP8 1 rfl 32 rfl (by decide) (by decide) rfl dX7_take_61 ?_
        refine lv_iconst (v := 1) hx hb dX7_take_62 (by decide) ?_
        refine lv_icmp_ne (x := f 32) (y := 1) (tgt := 94) hx hb dX7_take_63 (by decide) (fun (c13 : ¬ (f 32 = 1)) => absurd c3 c13) (fun (c13 : f 32 = 1) => ?_)
        refine lv_aload_n hx hb dX7_take_66 rfl (lv_at hl28 3 rfl) ?_
        refine va_get (ci := 7) (v := .int (Z 18)) (C := RX7) (T := TX7) (N := 22) hx hb ht inX7 hown hK.1 hP8 0 rfl rfl 18 (by decide) (ht _ q_684) (fun _ h9 => h9) rfl dX7_take_67 ?_
        refine lv_iload_n hx hb dX7_take_70 rfl (lv_at hl28 5 rfl) ?_
        refine lv_icmp_ne (x := Z 18) (y := 1) (tgt := 94) hx hb dX7_take_71 (by decide) (fun (c14 : ¬ (Z 18 = 1)) => ?_) (fun (c14 : Z 18 = 1) => ?_)
        · skip
          refine lv_iload hx hb dX7_take_94 (lv_at hl28 0 rfl) ?_
          refine lv_if_eq (x := 1) (tgt := 112) hx hb dX7_take_96 (by decide) (fun (c15 : 1 = 0) => absurd c15 (by decide)) (fun (c15 : ¬ (1 = 0)) => ?_)
          refine lv_aload_n hx hb dX7_take_99 rfl (lv_at hl28 4 rfl) ?_
          refine lv_bipush (v := 16) hx hb dX7_take_100 (by decide) ?_
          refine lv_iload_n hx hb dX7_take_102 rfl (lv_at hl28 5 rfl) ?_
          refine lv_imul hx hb dX7_take_103 ?_
          refine k_top (y := 16) (by decide +kernel) ?_
          refine lv_iload hx hb dX7_take_104 (lv_at hl28 1 rfl) ?_
          refine k_callv (kRunS (As := [.ref h1, .int 16, .int 34]) (rest := []) kx (c_X7_hear_16 l G (upd f 34 0) h1) q_789 q_787 q_36 q_788 nX7_hear ⟨Nat.le_of_ble_eq_true rfl, Nat.le_of_ble_eq_true rfl⟩ hK hP8 hD9 (kCtx_places _ _ [1] rfl rfl) rfl hl28.1 (Nat.le_of_ble_eq_true rfl) dX7_take_106 ⟨Nat.zero_le _, Nat.zero_le _⟩) hP8 hD9 hS7 hA (kCtx_places _ _ [1] rfl rfl) (fun _ => rfl) (fun F17 H29 locs29 hw hP29 hD29 hS29 => ?_)
          have hF17 : s_X7_hear_16_f (upd f 34 0) = F17 := (show F17 = s_X7_hear_16_f (upd f 34 0) from hw).symm
          have hP30 : va_P G.1 vwCl ([(h0, .inr (7, cM Z q1 q2 q3 q4 q5 q6 q7 q8 q9 q10 q11 sd)), (h1, .inl (G.2.1, 55, .inl F17))]) H29 := hP29
          have hD31 : va_D A ([(h0, .inr (7, cM Z q1 q2 q3 q4 q5 q6 q7 q8 q9 q10 q11 sd)), (h1, .inl (G.2.1, 55, .inl F17))]) := hD29
          refine lv_goto (tgt := 125) hx hb dX7_take_109 (by decide) ?_
          have e0 : s_X7_take_1_Z Z f = Z := by rw [s_X7_take_1_Z]; (try rw [hF17]); rw [if_pos c1, if_pos c3, if_pos c6, if_neg c14]
          have e1 : s_X7_take_1_f Z f = F17 := by rw [s_X7_take_1_f]; (try rw [hF17]); rw [if_pos c1, if_pos c3, if_pos c6, if_neg c14]
          exact k_vret kx hK hP30 hD31 hS29 (u := (Z, F17)) rfl ⟨e0.symm, e1.symm⟩ dX7_take_125
        · skip
          refine lv_aload_n hx hb dX7_take_74 rfl (lv_at hl28 3 rfl) ?_
          refine va_get (ci := 7) (v := .int (Z 19)) (C := RX7) (T := TX7) (N := 22) hx hb ht inX7 hown hK.1 hP8 0 rfl rfl 19 (by decide) (ht _ q_685) (fun _ h9 => h9) rfl dX7_take_75 ?_
          refine lv_if_le (x := Z 19) (tgt := 94) hx hb dX7_take_78 (by decide) (fun (c18 : Z 19 ≤ 0) => ?_) (fun (c18 : ¬ (Z 19 ≤ 0)) => ?_)
          · skip
            refine lv_iload hx hb dX7_take_94 (lv_at hl28 0 rfl) ?_
            refine lv_if_eq (x := 1) (tgt := 112) hx hb dX7_take_96 (by decide) (fun (c19 : 1 = 0) => absurd c19 (by decide)) (fun (c19 : ¬ (1 = 0)) => ?_)
            refine lv_aload_n hx hb dX7_take_99 rfl (lv_at hl28 4 rfl) ?_
            refine lv_bipush (v := 16) hx hb dX7_take_100 (by decide) ?_
            refine lv_iload_n hx hb dX7_take_102 rfl (lv_at hl28 5 rfl) ?_
            refine lv_imul hx hb dX7_take_103 ?_
            refine k_top (y := 16) (by decide +kernel) ?_
            refine lv_iload hx hb dX7_take_104 (lv_at hl28 1 rfl) ?_
            refine k_callv (kRunS (As := [.ref h1, .int 16, .int 34]) (rest := []) kx (c_X7_hear_16 l G (upd f 34 0) h1) q_789 q_787 q_36 q_788 nX7_hear ⟨Nat.le_of_ble_eq_true rfl, Nat.le_of_ble_eq_true rfl⟩ hK hP8 hD9 (kCtx_places _ _ [1] rfl rfl) rfl hl28.1 (Nat.le_of_ble_eq_true rfl) dX7_take_106 ⟨Nat.zero_le _, Nat.zero_le _⟩) hP8 hD9 hS7 hA (kCtx_places _ _ [1] rfl rfl) (fun _ => rfl) (fun F21 H32 locs32 hw hP32 hD32 hS32 => ?_)
            have hF21 : s_X7_hear_16_f (upd f 34 0) = F21 := (show F21 = s_X7_hear_16_f (upd f 34 0) from hw).symm
            have hP33 : va_P G.1 vwCl ([(h0, .inr (7, cM Z q1 q2 q3 q4 q5 q6 q7 q8 q9 q10 q11 sd)), (h1, .inl (G.2.1, 55, .inl F21))]) H32 := hP32
            have hD34 : va_D A ([(h0, .inr (7, cM Z q1 q2 q3 q4 q5 q6 q7 q8 q9 q10 q11 sd)), (h1, .inl (G.2.1, 55, .inl F21))]) := hD32
            refine lv_goto (tgt := 125) hx hb dX7_take_109 (by decide) ?_
            have e0 : s_X7_take_1_Z Z f = Z := by rw [s_X7_take_1_Z]; (try rw [hF21]); rw [if_pos c1, if_pos c3, if_pos c6, if_pos c14, if_pos c18]
            have e1 : s_X7_take_1_f Z f = F21 := by rw [s_X7_take_1_f]; (try rw [hF21]); rw [if_pos c1, if_pos c3, if_pos c6, if_pos c14, if_pos c18]
            exact k_vret kx hK hP33 hD34 hS32 (u := (Z, F21)) rfl ⟨e0.symm, e1.symm⟩ dX7_take_125
          · skip
            refine lv_iconst (v := 0) hx hb dX7_take_81 (by decide) ?_
            refine lv_istore (lv' := [(5, .int 0), (4, .int 34), (3, .int 0), (0, .ref h0), (1, .ref h1), (2, .int 1)]) hx hb dX7_take_82 hl28 (by decide) rfl (fun ls35 hl35 => ?_)
            refine lv_aload_n hx hb dX7_take_84 rfl (lv_at hl35 3 rfl) ?_
            refine lv_dup hx hb dX7_take_85 rfl ?_
            refine va_get (ci := 7) (v := .int (Z 19)) (C := RX7) (T := TX7) (N := 22) hx hb ht inX7 hown hK.1 hP8 0 rfl rfl 19 (by decide) (ht _ q_685) (fun _ h9 => h9) rfl dX7_take_86 ?_
            refine lv_iconst (v := 1) hx hb dX7_take_89 (by decide) ?_
            refine lv_isub hx hb dX7_take_90 ?_
            refine va_put (ci := 7) (v := .int ((Z 19) - 1)) (ty := .int) (C := RX7) (T := TX7) (N := 22) hx hb ht inX7 tyX7 tyX7_ok nmX7 hown hK.1 hP8 hD9 hS7 0 rfl rfl 19 (by decide) (ht _ q_685) (fun _ h9 => h9) rfl (by decide +kernel) rfl rfl (Nat.le_of_ble_eq_true rfl) dX7_take_91 (fun H36 locs36 hP36 hD36 hS36 => ?_)
            have hP37 : va_P G.1 vwCl ([(h0, .inr (7, cM (upd Z 19 ((Z 19) - 1)) q1 q2 q3 q4 q5 q6 q7 q8 q9 q10 q11 sd)), (h1, .inl (G.2.1, 55, .inl (upd f 34 0)))]) H36 := hP36
            have hD38 : va_D A ([(h0, .inr (7, cM (upd Z 19 ((Z 19) - 1)) q1 q2 q3 q4 q5 q6 q7 q8 q9 q10 q11 sd)), (h1, .inl (G.2.1, 55, .inl (upd f 34 0)))]) := hD36
            refine lv_iload hx hb dX7_take_94 (lv_at hl35 0 rfl) ?_
            refine lv_if_eq (x := 0) (tgt := 112) hx hb dX7_take_96 (by decide) (fun (c22 : 0 = 0) => ?_) (fun (c22 : ¬ (0 = 0)) => absurd (by decide) c22)
            refine lv_aload_n hx hb dX7_take_112 rfl (lv_at hl35 4 rfl) ?_
            refine lv_bipush (v := 16) hx hb dX7_take_113 (by decide) ?_
            refine lv_iload_n hx hb dX7_take_115 rfl (lv_at hl35 5 rfl) ?_
            refine lv_imul hx hb dX7_take_116 ?_
            refine k_top (y := 16) (by decide +kernel) ?_
            refine lv_bipush (v := 8) hx hb dX7_take_117 (by decide) ?_
            refine lv_iadd hx hb dX7_take_119 ?_
            refine k_top (y := 24) (by decide +kernel) ?_
            refine lv_dup2_11 hx hb dX7_take_120 rfl rfl ?_
            refine k_iald (v := (f 24)) kx hK hP37 1 rfl 24 rfl (by decide) (by decide) rfl dX7_take_121 ?_
            refine lv_iconst (v := 1) hx hb dX7_take_122 (by decide) ?_
            refine lv_iadd hx hb dX7_take_123 ?_
            refine k_iast kx hK hP37 hD38 hS36 1 rfl 24 rfl (by decide) (by decide) dX7_take_124 (fun H39 locs39 hP39 hD39 hS39 => ?_)
            have hP40 : va_P G.1 vwCl ([(h0, .inr (7, cM (upd Z 19 ((Z 19) - 1)) q1 q2 q3 q4 q5 q6 q7 q8 q9 q10 q11 sd)), (h1, .inl (G.2.1, 55, .inl (upd (upd f 34 0) 24 ((f 24) + 1))))]) H39 := hP39
            have hD41 : va_D A ([(h0, .inr (7, cM (upd Z 19 ((Z 19) - 1)) q1 q2 q3 q4 q5 q6 q7 q8 q9 q10 q11 sd)), (h1, .inl (G.2.1, 55, .inl (upd (upd f 34 0) 24 ((f 24) + 1))))]) := hD39
            have e0 : s_X7_take_1_Z Z f = upd Z 19 ((Z 19) - 1) := by rw [s_X7_take_1_Z, if_pos c1, if_pos c3, if_pos c6, if_pos c14, if_neg c18]
            have e1 : s_X7_take_1_f Z f = upd (upd f 34 0) 24 ((f 24) + 1) := by rw [s_X7_take_1_f, if_pos c1, if_pos c3, if_pos c6, if_pos c14, if_neg c18]
            exact k_vret kx hK hP40 hD41 hS39 (u := (upd Z 19 ((Z 19) - 1), upd (upd f 34 0) 24 ((f 24) + 1))) rfl ⟨e0.symm, e1.symm⟩ dX7_take_125

def s_X7_sendOn_0_Z (Z : Nat → Int32) : Nat → Int32 := if 6 ≤ Z 21 then (upd Z 21 6) else if (r_X7_has (Z 20) (Z 21)) = 0 then (upd Z 21 ((Z 21) + 1)) else upd Z 21 ((Z 21) + 1)
def s_X7_sendOn_0_f (Z : Nat → Int32) (f : Nat → Int32) : Nat → Int32 := if 6 ≤ Z 21 then (upd (upd (upd (upd (upd (upd (upd (upd (upd (upd (upd (upd f 34 1) 35 (f 5)) 36 (f 0)) 37 (f 1)) 38 (f 2)) 39 (f 7)) 40 (f 6)) 41 (f 10)) 42 0) 10 0) 9 (r_X7_paceOn_0 (upd (upd (upd (upd (upd (upd (upd (upd (upd (upd f 34 1) 35 (f 5)) 36 (f 0)) 37 (f 1)) 38 (f 2)) 39 (f 7)) 40 (f 6)) 41 (f 10)) 42 0) 10 0))) 53 ((f 53) + 1)) else if (r_X7_has (Z 20) (Z 21)) = 0 then (upd (upd (upd (upd (upd (upd (upd (upd (upd (upd (upd (upd f 34 1) 35 (f 5)) 36 (f 0)) 37 (f 1)) 38 (f 2)) 39 (f 7)) 40 (f 6)) 41 (f 10)) 42 0) 10 0) 9 (r_X7_paceOn_0 (upd (upd (upd (upd (upd (upd (upd (upd (upd (upd f 34 1) 35 (f 5)) 36 (f 0)) 37 (f 1)) 38 (f 2)) 39 (f 7)) 40 (f 6)) 41 (f 10)) 42 0) 10 0))) 53 ((f 53) + 1)) else upd (upd (upd (upd (upd (upd (upd (upd (upd (upd (upd (upd f 34 1) 35 (f 5)) 36 (f 0)) 37 (f 1)) 38 (f 2)) 39 (f 7)) 40 (f 6)) 41 (f 10)) 42 1) 10 0) 9 (r_X7_paceOn_0 (upd (upd (upd (upd (upd (upd (upd (upd (upd (upd f 34 1) 35 (f 5)) 36 (f 0)) 37 (f 1)) 38 (f 2)) 39 (f 7)) 40 (f 6)) 41 (f 10)) 42 1) 10 0))) 53 ((f 53) + 1)
set_option maxHeartbeats 4000000 in
set_option maxRecDepth 100000 in
theorem c_X7_sendOn_0 (l : Launch) (G : kG) (Z : Nat → Int32) (sd : Int64) (h0 : Nat) (q1 : Nat) (q2 : Nat) (q3 : Nat) (q4 : Nat) (q5 : Nat) (q6 : Nat) (q7 : Nat) (q8 : Nat) (q9 : Nat) (q10 : Nat) (q11 : Nat) (f : Nat → Int32) (h1 : Nat) : cG l G yX7_sendOn cX7_sendOn 5 none 2 [.ref h0, .ref h1, .int 0] ([(h0, .inr (7, cM Z q1 q2 q3 q4 q5 q6 q7 q8 q9 q10 q11 sd)), (h1, .inl (G.2.1, 55, .inl f))]) (qV G (fun u : ((Nat → Int32) × (Nat → Int32)) => u.1 = s_X7_sendOn_0_Z Z ∧ u.2 = s_X7_sendOn_0_f Z f) (fun u => [(h0, .inr (7, cM u.1 q1 q2 q3 q4 q5 q6 q7 q8 q9 q10 q11 sd)), (h1, .inl (G.2.1, 55, .inl u.2))])) := by
  refine kintro (by decide) (Nat.le_of_ble_eq_true rfl) ?_
  intro p e s m args below meth c A ls kx hK hP hD hS hA hl
  have kx : kX p s m args meth c cX7_sendOn 5 none RX7 := kx
  have hx := kx.1
  have hb := kx.2.1
  have hown := kx.2.2.2.2.1
  have ht := kx.2.2.2.2.2.2
  have hl : lv_has ls 5 [(0, .ref h0), (1, .ref h1), (2, .int 0)] := hl
  refine lv_bipush (v := 16) hx hb dX7_sendOn_0 (by decide) ?_
  refine lv_iload_n hx hb dX7_sendOn_2 rfl (lv_at hl 2 rfl) ?_
  refine lv_imul hx hb dX7_sendOn_3 ?_
  refine k_top (y := 0) (by decide +kernel) ?_
  refine lv_istore_n (lv' := [(3, .int 0), (0, .ref h0), (1, .ref h1), (2, .int 0)]) hx hb dX7_sendOn_4 rfl hl (by decide) rfl (fun ls1 hl1 => ?_)
  refine lv_bipush (v := 34) hx hb dX7_sendOn_5 (by decide) ?_
  refine lv_bipush (v := 9) hx hb dX7_sendOn_7 (by decide) ?_
  refine lv_iload_n hx hb dX7_sendOn_9 rfl (lv_at hl1 3 rfl) ?_
  refine lv_imul hx hb dX7_sendOn_10 ?_
  refine k_top (y := 0) (by decide +kernel) ?_
  refine lv_iadd hx hb dX7_sendOn_11 ?_
  refine k_top (y := 34) (by decide +kernel) ?_
  refine lv_istore (lv' := [(4, .int 34), (3, .int 0), (0, .ref h0), (1, .ref h1), (2, .int 0)]) hx hb dX7_sendOn_12 hl1 (by decide) rfl (fun ls2 hl2 => ?_)
  refine lv_aload_n hx hb dX7_sendOn_14 rfl (lv_at hl2 3 rfl) ?_
  refine lv_iload hx hb dX7_sendOn_15 (lv_at hl2 0 rfl) ?_
  refine lv_iconst (v := 1) hx hb dX7_sendOn_17 (by decide) ?_
  refine k_iast kx hK hP hD hS 1 rfl 34 rfl (by decide) (by decide) dX7_sendOn_18 (fun H3 locs3 hP3 hD3 hS3 => ?_)
  have hP4 : va_P G.1 vwCl ([(h0, .inr (7, cM Z q1 q2 q3 q4 q5 q6 q7 q8 q9 q10 q11 sd)), (h1, .inl (G.2.1, 55, .inl (upd f 34 1)))]) H3 := hP3
  have hD5 : va_D A ([(h0, .inr (7, cM Z q1 q2 q3 q4 q5 q6 q7 q8 q9 q10 q11 sd)), (h1, .inl (G.2.1, 55, .inl (upd f 34 1)))]) := hD3
  refine lv_aload_n hx hb dX7_sendOn_19 rfl (lv_at hl2 3 rfl) ?_
  refine lv_iload hx hb dX7_sendOn_20 (lv_at hl2 0 rfl) ?_
  refine lv_iconst (v := 1) hx hb dX7_sendOn_22 (by decide) ?_
  refine lv_iadd hx hb dX7_sendOn_23 ?_
  refine k_top (y := 35) (by decide +kernel) ?_
  refine lv_aload_n hx hb dX7_sendOn_24 rfl (lv_at hl2 3 rfl) ?_
  refine lv_iload_n hx hb dX7_sendOn_25 rfl (lv_at hl2 1 rfl) ?_
  refine lv_iconst (v := 5) hx hb dX7_sendOn_26 (by decide) ?_
  refine lv_iadd hx hb dX7_sendOn_27 ?_
  refine k_top (y := 5) (by decide +kernel) ?_
  refine k_iald (v := (f 5)) kx hK hP4 1 rfl 5 rfl (by decide) (by decide) rfl dX7_sendOn_28 ?_
  refine k_iast kx hK hP4 hD5 hS3 1 rfl 35 rfl (by decide) (by decide) dX7_sendOn_29 (fun H6 locs6 hP6 hD6 hS6 => ?_)
  have hP7 : va_P G.1 vwCl ([(h0, .inr (7, cM Z q1 q2 q3 q4 q5 q6 q7 q8 q9 q10 q11 sd)), (h1, .inl (G.2.1, 55, .inl (upd (upd f 34 1) 35 (f 5))))]) H6 := hP6
  have hD8 : va_D A ([(h0, .inr (7, cM Z q1 q2 q3 q4 q5 q6 q7 q8 q9 q10 q11 sd)), (h1, .inl (G.2.1, 55, .inl (upd (upd f 34 1) 35 (f 5))))]) := hD6
  refine lv_aload_n hx hb dX7_sendOn_30 rfl (lv_at hl2 3 rfl) ?_
  refine lv_iload hx hb dX7_sendOn_31 (lv_at hl2 0 rfl) ?_
  refine lv_iconst (v := 2) hx hb dX7_sendOn_33 (by decide) ?_
  refine lv_iadd hx hb dX7_sendOn_34 ?_
  refine k_top (y := 36) (by decide +kernel) ?_
  refine lv_aload_n hx hb dX7_sendOn_35 rfl (lv_at hl2 3 rfl) ?_
  refine lv_iload_n hx hb dX7_sendOn_36 rfl (lv_at hl2 1 rfl) ?_
  refine lv_iconst (v := 0) hx hb dX7_sendOn_37 (by decide) ?_
  refine lv_iadd hx hb dX7_sendOn_38 ?_
  refine k_top (y := 0) (by decide +kernel) ?_
  refine k_iald (v := (f 0)) kx hK hP7 1 rfl 0 rfl (by decide) (by decide) rfl dX7_sendOn_39 ?_
  refine k_iast kx hK hP7 hD8 hS6 1 rfl 36 rfl (by decide) (by decide) dX7_sendOn_40 (fun H9 locs9 hP9 hD9 hS9 => ?_)
  have hP10 : va_P G.1 vwCl ([(h0, .inr (7, cM Z q1 q2 q3 q4 q5 q6 q7 q8 q9 q10 q11 sd)), (h1, .inl (G.2.1, 55, .inl (upd (upd (upd f 34 1) 35 (f 5)) 36 (f 0))))]) H9 := hP9
  have hD11 : va_D A ([(h0, .inr (7, cM Z q1 q2 q3 q4 q5 q6 q7 q8 q9 q10 q11 sd)), (h1, .inl (G.2.1, 55, .inl (upd (upd (upd f 34 1) 35 (f 5)) 36 (f 0))))]) := hD9
  refine lv_aload_n hx hb dX7_sendOn_41 rfl (lv_at hl2 3 rfl) ?_
  refine lv_iload hx hb dX7_sendOn_42 (lv_at hl2 0 rfl) ?_
  refine lv_iconst (v := 3) hx hb dX7_sendOn_44 (by decide) ?_
  refine lv_iadd hx hb dX7_sendOn_45 ?_
  refine k_top (y := 37) (by decide +kernel) ?_
  refine lv_aload_n hx hb dX7_sendOn_46 rfl (lv_at hl2 3 rfl) ?_
  refine lv_iload_n hx hb dX7_sendOn_47 rfl (lv_at hl2 1 rfl) ?_
  refine lv_iconst (v := 1) hx hb dX7_sendOn_48 (by decide) ?_
  refine lv_iadd hx hb dX7_sendOn_49 ?_
  refine k_top (y := 1) (by decide +kernel) ?_
  refine k_iald (v := (f 1)) kx hK hP10 1 rfl 1 rfl (by decide) (by decide) rfl dX7_sendOn_50 ?_
  refine k_iast kx hK hP10 hD11 hS9 1 rfl 37 rfl (by decide) (by decide) dX7_sendOn_51 (fun H12 locs12 hP12 hD12 hS12 => ?_)
  have hP13 : va_P G.1 vwCl ([(h0, .inr (7, cM Z q1 q2 q3 q4 q5 q6 q7 q8 q9 q10 q11 sd)), (h1, .inl (G.2.1, 55, .inl (upd (upd (upd (upd f 34 1) 35 (f 5)) 36 (f 0)) 37 (f 1))))]) H12 := hP12
  have hD14 : va_D A ([(h0, .inr (7, cM Z q1 q2 q3 q4 q5 q6 q7 q8 q9 q10 q11 sd)), (h1, .inl (G.2.1, 55, .inl (upd (upd (upd (upd f 34 1) 35 (f 5)) 36 (f 0)) 37 (f 1))))]) := hD12
  refine lv_aload_n hx hb dX7_sendOn_52 rfl (lv_at hl2 3 rfl) ?_
  refine lv_iload hx hb dX7_sendOn_53 (lv_at hl2 0 rfl) ?_
  refine lv_iconst (v := 4) hx hb dX7_sendOn_55 (by decide) ?_
  refine lv_iadd hx hb dX7_sendOn_56 ?_
  refine k_top (y := 38) (by decide +kernel) ?_
  refine lv_aload_n hx hb dX7_sendOn_57 rfl (lv_at hl2 3 rfl) ?_
  refine lv_iload_n hx hb dX7_sendOn_58 rfl (lv_at hl2 1 rfl) ?_
  refine lv_iconst (v := 2) hx hb dX7_sendOn_59 (by decide) ?_
  refine lv_iadd hx hb dX7_sendOn_60 ?_
  refine k_top (y := 2) (by decide +kernel) ?_
  refine k_iald (v := (f 2)) kx hK hP13 1 rfl 2 rfl (by decide) (by decide) rfl dX7_sendOn_61 ?_
  refine k_iast kx hK hP13 hD14 hS12 1 rfl 38 rfl (by decide) (by decide) dX7_sendOn_62 (fun H15 locs15 hP15 hD15 hS15 => ?_)
  have hP16 : va_P G.1 vwCl ([(h0, .inr (7, cM Z q1 q2 q3 q4 q5 q6 q7 q8 q9 q10 q11 sd)), (h1, .inl (G.2.1, 55, .inl (upd (upd (upd (upd (upd f 34 1) 35 (f 5)) 36 (f 0)) 37 (f 1)) 38 (f 2))))]) H15 := hP15
  have hD17 : va_D A ([(h0, .inr (7, cM Z q1 q2 q3 q4 q5 q6 q7 q8 q9 q10 q11 sd)), (h1, .inl (G.2.1, 55, .inl (upd (upd (upd (upd (upd f 34 1) 35 (f 5)) 36 (f 0)) 37 (f 1)) 38 (f 2))))]) := hD15
  refine lv_aload_n hx hb dX7_sendOn_63 rfl (lv_at hl2 3 rfl) ?_
  refine lv_iload hx hb dX7_sendOn_64 (lv_at hl2 0 rfl) ?_
  refine lv_iconst (v := 5) hx hb dX7_sendOn_66 (by decide) ?_
  refine lv_iadd hx hb dX7_sendOn_67 ?_
  refine k_top (y := 39) (by decide +kernel) ?_
  refine lv_aload_n hx hb dX7_sendOn_68 rfl (lv_at hl2 3 rfl) ?_
  refine lv_iload_n hx hb dX7_sendOn_69 rfl (lv_at hl2 1 rfl) ?_
  refine lv_bipush (v := 7) hx hb dX7_sendOn_70 (by decide) ?_
  refine lv_iadd hx hb dX7_sendOn_72 ?_
  refine k_top (y := 7) (by decide +kernel) ?_
  refine k_iald (v := (f 7)) kx hK hP16 1 rfl 7 rfl (by decide) (by decide) rfl dX7_sendOn_73 ?_
  refine k_iast kx hK hP16 hD17 hS15 1 rfl 39 rfl (by decide) (by decide) dX7_sendOn_74 (fun H18 locs18 hP18 hD18 hS18 => ?_)
  have hP19 : va_P G.1 vwCl ([(h0, .inr (7, cM Z q1 q2 q3 q4 q5 q6 q7 q8 q9 q10 q11 sd)), (h1, .inl (G.2.1, 55, .inl (upd (upd (upd (upd (upd (upd f 34 1) 35 (f 5)) 36 (f 0)) 37 (f 1)) 38 (f 2)) 39 (f 7))))]) H18 := hP18
  have hD20 : va_D A ([(h0, .inr (7, cM Z q1 q2 q3 q4 q5 q6 q7 q8 q9 q10 q11 sd)), (h1, .inl (G.2.1, 55, .inl (upd (upd (upd (upd (upd (upd f 34 1) 35 (f 5)) 36 (f 0)) 37 (f 1)) 38 (f 2)) 39 (f 7))))]) := hD18
  refine lv_aload_n hx hb dX7_sendOn_75 rfl (lv_at hl2 3 rfl) ?_
  refine lv_iload hx hb dX7_sendOn_76 (lv_at hl2 0 rfl) ?_
  refine lv_bipush (v := 6) hx hb dX7_sendOn_78 (by decide) ?_
  refine lv_iadd hx hb dX7_sendOn_80 ?_
  refine k_top (y := 40) (by decide +kernel) ?_
  refine lv_aload_n hx hb dX7_sendOn_81 rfl (lv_at hl2 3 rfl) ?_
  refine lv_iload_n hx hb dX7_sendOn_82 rfl (lv_at hl2 1 rfl) ?_
  refine lv_bipush (v := 6) hx hb dX7_sendOn_83 (by decide) ?_
  refine lv_iadd hx hb dX7_sendOn_85 ?_
  refine k_top (y := 6) (by decide +kernel) ?_
  refine k_iald (v := (f 6)) kx hK hP19 1 rfl 6 rfl (by decide) (by decide) rfl dX7_sendOn_86 ?_
  refine k_iast kx hK hP19 hD20 hS18 1 rfl 40 rfl (by decide) (by decide) dX7_sendOn_87 (fun H21 locs21 hP21 hD21 hS21 => ?_)
  have hP22 : va_P G.1 vwCl ([(h0, .inr (7, cM Z q1 q2 q3 q4 q5 q6 q7 q8 q9 q10 q11 sd)), (h1, .inl (G.2.1, 55, .inl (upd (upd (upd (upd (upd (upd (upd f 34 1) 35 (f 5)) 36 (f 0)) 37 (f 1)) 38 (f 2)) 39 (f 7)) 40 (f 6))))]) H21 := hP21
  have hD23 : va_D A ([(h0, .inr (7, cM Z q1 q2 q3 q4 q5 q6 q7 q8 q9 q10 q11 sd)), (h1, .inl (G.2.1, 55, .inl (upd (upd (upd (upd (upd (upd (upd f 34 1) 35 (f 5)) 36 (f 0)) 37 (f 1)) 38 (f 2)) 39 (f 7)) 40 (f 6))))]) := hD21
  refine lv_aload_n hx hb dX7_sendOn_88 rfl (lv_at hl2 3 rfl) ?_
  refine lv_iload hx hb dX7_sendOn_89 (lv_at hl2 0 rfl) ?_
  refine lv_bipush (v := 7) hx hb dX7_sendOn_91 (by decide) ?_
  refine lv_iadd hx hb dX7_sendOn_93 ?_
  refine k_top (y := 41) (by decide +kernel) ?_
  refine lv_aload_n hx hb dX7_sendOn_94 rfl (lv_at hl2 3 rfl) ?_
  refine lv_iload_n hx hb dX7_sendOn_95 rfl (lv_at hl2 1 rfl) ?_
  refine lv_bipush (v := 10) hx hb dX7_sendOn_96 (by decide) ?_
  refine lv_iadd hx hb dX7_sendOn_98 ?_
  refine k_top (y := 10) (by decide +kernel) ?_
  refine k_iald (v := (f 10)) kx hK hP22 1 rfl 10 rfl (by decide) (by decide) rfl dX7_sendOn_99 ?_
  refine k_iast kx hK hP22 hD23 hS21 1 rfl 41 rfl (by decide) (by decide) dX7_sendOn_100 (fun H24 locs24 hP24 hD24 hS24 => ?_)
  have hP25 : va_P G.1 vwCl ([(h0, .inr (7, cM Z q1 q2 q3 q4 q5 q6 q7 q8 q9 q10 q11 sd)), (h1, .inl (G.2.1, 55, .inl (upd (upd (upd (upd (upd (upd (upd (upd f 34 1) 35 (f 5)) 36 (f 0)) 37 (f 1)) 38 (f 2)) 39 (f 7)) 40 (f 6)) 41 (f 10))))]) H24 := hP24
  have hD26 : va_D A ([(h0, .inr (7, cM Z q1 q2 q3 q4 q5 q6 q7 q8 q9 q10 q11 sd)), (h1, .inl (G.2.1, 55, .inl (upd (upd (upd (upd (upd (upd (upd (upd f 34 1) 35 (f 5)) 36 (f 0)) 37 (f 1)) 38 (f 2)) 39 (f 7)) 40 (f 6)) 41 (f 10))))]) := hD24
  refine lv_aload_n hx hb dX7_sendOn_101 rfl (lv_at hl2 3 rfl) ?_
  refine lv_iload hx hb dX7_sendOn_102 (lv_at hl2 0 rfl) ?_
  refine lv_bipush (v := 8) hx hb dX7_sendOn_104 (by decide) ?_
  refine lv_iadd hx hb dX7_sendOn_106 ?_
  refine k_top (y := 42) (by decide +kernel) ?_
  refine lv_aload_n hx hb dX7_sendOn_107 rfl (lv_at hl2 2 rfl) ?_
  refine va_get (ci := 7) (v := .int (Z 21)) (C := RX7) (T := TX7) (N := 22) hx hb ht inX7 hown hK.1 hP25 0 rfl rfl 21 (by decide) (ht _ q_687) (fun _ h9 => h9) rfl dX7_sendOn_108 ?_
  refine lv_bipush (v := 6) hx hb dX7_sendOn_111 (by decide) ?_
  refine lv_icmp_ge (x := Z 21) (y := 6) (tgt := 134) hx hb dX7_sendOn_113 (by decide) (fun (c1 : 6 ≤ Z 21) => ?_) (fun (c1 : ¬ (6 ≤ Z 21)) => ?_)
  · skip
    refine lv_iconst (v := 0) hx hb dX7_sendOn_134 (by decide) ?_
    refine k_iast kx hK hP25 hD26 hS24 1 rfl 42 rfl (by decide) (by decide) dX7_sendOn_135 (fun H27 locs27 hP27 hD27 hS27 => ?_)
    have hP28 : va_P G.1 vwCl ([(h0, .inr (7, cM Z q1 q2 q3 q4 q5 q6 q7 q8 q9 q10 q11 sd)), (h1, .inl (G.2.1, 55, .inl (upd (upd (upd (upd (upd (upd (upd (upd (upd f 34 1) 35 (f 5)) 36 (f 0)) 37 (f 1)) 38 (f 2)) 39 (f 7)) 40 (f 6)) 41 (f 10)) 42 0)))]) H27 := hP27
    have hD29 : va_D A ([(h0, .inr (7, cM Z q1 q2 q3 q4 q5 q6 q7 q8 q9 q10 q11 sd)), (h1, .inl (G.2.1, 55, .inl (upd (upd (upd (upd (upd (upd (upd (upd (upd f 34 1) 35 (f 5)) 36 (f 0)) 37 (f 1)) 38 (f 2)) 39 (f 7)) 40 (f 6)) 41 (f 10)) 42 0)))]) := hD27
    refine lv_aload_n hx hb dX7_sendOn_136 rfl (lv_at hl2 2 rfl) ?_
    refine lv_aload_n hx hb dX7_sendOn_137 rfl (lv_at hl2 2 rfl) ?_
    refine va_get (ci := 7) (v := .int (Z 21)) (C := RX7) (T := TX7) (N := 22) hx hb ht inX7 hown hK.1 hP28 0 rfl rfl 21 (by decide) (ht _ q_687) (fun _ h9 => h9) rfl dX7_sendOn_138 ?_
    refine lv_bipush (v := 6) hx hb dX7_sendOn_141 (by decide) ?_
    refine lv_icmp_ge (x := Z 21) (y := 6) (tgt := 155) hx hb dX7_sendOn_143 (by decide) (fun (c2 : 6 ≤ Z 21) => ?_) (fun (c2 : ¬ (6 ≤ Z 21)) => absurd c1 c2)
    refine lv_bipush (v := 6) hx hb dX7_sendOn_155 (by decide) ?_
    refine va_put (ci := 7) (v := .int 6) (ty := .int) (C := RX7) (T := TX7) (N := 22) hx hb ht inX7 tyX7 tyX7_ok nmX7 hown hK.1 hP28 hD29 hS27 0 rfl rfl 21 (by decide) (ht _ q_687) (fun _ h9 => h9) rfl (by decide +kernel) rfl rfl (Nat.le_of_ble_eq_true rfl) dX7_sendOn_157 (fun H30 locs30 hP30 hD30 hS30 => ?_)
    have hP31 : va_P G.1 vwCl ([(h0, .inr (7, cM (upd Z 21 6) q1 q2 q3 q4 q5 q6 q7 q8 q9 q10 q11 sd)), (h1, .inl (G.2.1, 55, .inl (upd (upd (upd (upd (upd (upd (upd (upd (upd f 34 1) 35 (f 5)) 36 (f 0)) 37 (f 1)) 38 (f 2)) 39 (f 7)) 40 (f 6)) 41 (f 10)) 42 0)))]) H30 := hP30
    have hD32 : va_D A ([(h0, .inr (7, cM (upd Z 21 6) q1 q2 q3 q4 q5 q6 q7 q8 q9 q10 q11 sd)), (h1, .inl (G.2.1, 55, .inl (upd (upd (upd (upd (upd (upd (upd (upd (upd f 34 1) 35 (f 5)) 36 (f 0)) 37 (f 1)) 38 (f 2)) 39 (f 7)) 40 (f 6)) 41 (f 10)) 42 0)))]) := hD30
    refine lv_aload_n hx hb dX7_sendOn_160 rfl (lv_at hl2 3 rfl) ?_
    refine lv_iload_n hx hb dX7_sendOn_161 rfl (lv_at hl2 1 rfl) ?_
    refine lv_bipush (v := 10) hx hb dX7_sendOn_162 (by decide) ?_
    refine lv_iadd hx hb dX7_sendOn_164 ?_
    refine k_top (y := 10) (by decide +kernel) ?_
    refine lv_iconst (v := 0) hx hb dX7_sendOn_165 (by decide) ?_
    refine k_iast kx hK hP31 hD32 hS30 1 rfl 10 rfl (by decide) (by decide) dX7_sendOn_166 (fun H33 locs33 hP33 hD33 hS33 => ?_)
    have hP34 : va_P G.1 vwCl ([(h0, .inr (7, cM (upd Z 21 6) q1 q2 q3 q4 q5 q6 q7 q8 q9 q10 q11 sd)), (h1, .inl (G.2.1, 55, .inl (upd (upd (upd (upd (upd (upd (upd (upd (upd (upd f 34 1) 35 (f 5)) 36 (f 0)) 37 (f 1)) 38 (f 2)) 39 (f 7)) 40 (f 6)) 41 (f 10)) 42 0) 10 0)))]) H33 := hP33
    have hD35 : va_D A ([(h0, .inr (7, cM (upd Z 21 6) q1 q2 q3 q4 q5 q6 q7 q8 q9 q10 q11 sd)), (h1, .inl (G.2.1, 55, .inl (upd (upd (upd (upd (upd (upd (upd (upd (upd (upd f 34 1) 35 (f 5)) 36 (f 0)) 37 (f 1)) 38 (f 2)) 39 (f 7)) 40 (f 6)) 41 (f 10)) 42 0) 10 0)))]) := hD33
    refine lv_aload_n hx hb dX7_sendOn_167 rfl (lv_at hl2 3 rfl) ?_
    refine lv_iload_n hx hb dX7_sendOn_168 rfl (lv_at hl2 1 rfl) ?_
    refine lv_bipush (v := 9) hx hb dX7_sendOn_169 (by decide) ?_
    refine lv_iadd hx hb dX7_sendOn_171 ?_
    refine k_top (y := 9) (by decide +kernel) ?_
    refine lv_aload_n hx hb dX7_sendOn_172 rfl (lv_at hl2 3 rfl) ?_
    refine lv_iload_n hx hb dX7_sendOn_173 rfl (lv_at hl2 1 rfl) ?_
    refine k_calli (kRunS (As := [.ref h1, .int 0]) (rest := [.int 9, .ref h1]) kx (c_X7_paceOn_0 l G (upd (upd (upd (upd (upd (upd (upd (upd (upd (upd f 34 1) 35 (f 5)) 36 (f 0)) 37 (f 1)) 38 (f 2)) 39 (f 7)) 40 (f 6)) 41 (f 10)) 42 0) 10 0) h1) q_817 q_815 q_36 q_816 nX7_paceOn ⟨Nat.le_of_ble_eq_true rfl, Nat.le_of_ble_eq_true rfl⟩ hK hP34 hD35 (kCtx_places _ _ [1] rfl rfl) rfl hl2.1 (Nat.le_of_ble_eq_true rfl) dX7_sendOn_174 ⟨Nat.zero_le _, Nat.zero_le _⟩) hP34 hD35 hS33 hA (kCtx_places _ _ [1] rfl rfl) (fun _ => rfl) (fun r3 _ H36 locs36 hw hP36 hD36 hS36 => ?_)
    have hr3 : r_X7_paceOn_0 (upd (upd (upd (upd (upd (upd (upd (upd (upd (upd f 34 1) 35 (f 5)) 36 (f 0)) 37 (f 1)) 38 (f 2)) 39 (f 7)) 40 (f 6)) 41 (f 10)) 42 0) 10 0) = r3 := (show r3 = r_X7_paceOn_0 (upd (upd (upd (upd (upd (upd (upd (upd (upd (upd f 34 1) 35 (f 5)) 36 (f 0)) 37 (f 1)) 38 (f 2)) 39 (f 7)) 40 (f 6)) 41 (f 10)) 42 0) 10 0) from hw).symm
    have hP37 : va_P G.1 vwCl ([(h0, .inr (7, cM (upd Z 21 6) q1 q2 q3 q4 q5 q6 q7 q8 q9 q10 q11 sd)), (h1, .inl (G.2.1, 55, .inl (upd (upd (upd (upd (upd (upd (upd (upd (upd (upd f 34 1) 35 (f 5)) 36 (f 0)) 37 (f 1)) 38 (f 2)) 39 (f 7)) 40 (f 6)) 41 (f 10)) 42 0) 10 0)))]) H36 := hP36
    have hD38 : va_D A ([(h0, .inr (7, cM (upd Z 21 6) q1 q2 q3 q4 q5 q6 q7 q8 q9 q10 q11 sd)), (h1, .inl (G.2.1, 55, .inl (upd (upd (upd (upd (upd (upd (upd (upd (upd (upd f 34 1) 35 (f 5)) 36 (f 0)) 37 (f 1)) 38 (f 2)) 39 (f 7)) 40 (f 6)) 41 (f 10)) 42 0) 10 0)))]) := hD36
    refine k_iast kx hK hP37 hD38 hS36 1 rfl 9 rfl (by decide) (by decide) dX7_sendOn_177 (fun H39 locs39 hP39 hD39 hS39 => ?_)
    have hP40 : va_P G.1 vwCl ([(h0, .inr (7, cM (upd Z 21 6) q1 q2 q3 q4 q5 q6 q7 q8 q9 q10 q11 sd)), (h1, .inl (G.2.1, 55, .inl (upd (upd (upd (upd (upd (upd (upd (upd (upd (upd (upd f 34 1) 35 (f 5)) 36 (f 0)) 37 (f 1)) 38 (f 2)) 39 (f 7)) 40 (f 6)) 41 (f 10)) 42 0) 10 0) 9 r3)))]) H39 := hP39
    have hD41 : va_D A ([(h0, .inr (7, cM (upd Z 21 6) q1 q2 q3 q4 q5 q6 q7 q8 q9 q10 q11 sd)), (h1, .inl (G.2.1, 55, .inl (upd (upd (upd (upd (upd (upd (upd (upd (upd (upd (upd f 34 1) 35 (f 5)) 36 (f 0)) 37 (f 1)) 38 (f 2)) 39 (f 7)) 40 (f 6)) 41 (f 10)) 42 0) 10 0) 9 r3)))]) := hD39
    refine lv_aload_n hx hb dX7_sendOn_178 rfl (lv_at hl2 3 rfl) ?_
    refine lv_bipush (v := 53) hx hb dX7_sendOn_179 (by decide) ?_
    refine lv_dup2_11 hx hb dX7_sendOn_181 rfl rfl ?_
    refine k_iald (v := (f 53)) kx hK hP40 1 rfl 53 rfl (by decide) (by decide) rfl dX7_sendOn_182 ?_
    refine lv_iconst (v := 1) hx hb dX7_sendOn_183 (by decide) ?_
    refine lv_iadd hx hb dX7_sendOn_184 ?_
    refine k_iast kx hK hP40 hD41 hS39 1 rfl 53 rfl (by decide) (by decide) dX7_sendOn_185 (fun H42 locs42 hP42 hD42 hS42 => ?_)
    have hP43 : va_P G.1 vwCl ([(h0, .inr (7, cM (upd Z 21 6) q1 q2 q3 q4 q5 q6 q7 q8 q9 q10 q11 sd)), (h1, .inl (G.2.1, 55, .inl (upd (upd (upd (upd (upd (upd (upd (upd (upd (upd (upd (upd f 34 1) 35 (f 5)) 36 (f 0)) 37 (f 1)) 38 (f 2)) 39 (f 7)) 40 (f 6)) 41 (f 10)) 42 0) 10 0) 9 r3) 53 ((f 53) + 1))))]) H42 := hP42
    have hD44 : va_D A ([(h0, .inr (7, cM (upd Z 21 6) q1 q2 q3 q4 q5 q6 q7 q8 q9 q10 q11 sd)), (h1, .inl (G.2.1, 55, .inl (upd (upd (upd (upd (upd (upd (upd (upd (upd (upd (upd (upd f 34 1) 35 (f 5)) 36 (f 0)) 37 (f 1)) 38 (f 2)) 39 (f 7)) 40 (f 6)) 41 (f 10)) 42 0) 10 0) 9 r3) 53 ((f 53) + 1))))]) := hD42
    have e0 : s_X7_sendOn_0_Z Z = upd Z 21 6 := by rw [s_X7_sendOn_0_Z]; (try rw [hr3]); rw [if_pos c1]
    have e1 : s_X7_sendOn_0_f Z f = upd (upd (upd (upd (upd (upd (upd (upd (upd (upd (upd (upd f 34 1) 35 (f 5)) 36 (f 0)) 37 (f 1)) 38 (f 2)) 39 (f 7)) 40 (f 6)) 41 (f 10)) 42 0) 10 0) 9 r3) 53 ((f 53) + 1) := by rw [s_X7_sendOn_0_f]; (try rw [hr3]); rw [if_pos c1]
    exact k_vret kx hK hP43 hD44 hS42 (u := (upd Z 21 6, upd (upd (upd (upd (upd (upd (upd (upd (upd (upd (upd (upd f 34 1) 35 (f 5)) 36 (f 0)) 37 (f 1)) 38 (f 2)) 39 (f 7)) 40 (f 6)) 41 (f 10)) 42 0) 10 0) 9 r3) 53 ((f 53) + 1))) rfl ⟨e0.symm, e1.symm⟩ dX7_sendOn_186
  · skip
    refine lv_aload_n hx hb dX7_sendOn_116 rfl (lv_at hl2 2 rfl) ?_
    refine va_get (ci := 7) (v := .int (Z 20)) (C := RX7) (T := TX7) (N := 22) hx hb ht inX7 hown hK.1 hP25 0 rfl rfl 20 (by decide) (ht _ q_686) (fun _ h9 => h9) rfl dX7_sendOn_117 ?_
    refine lv_aload_n hx hb dX7_sendOn_120 rfl (lv_at hl2 2 rfl) ?_
    refine va_get (ci := 7) (v := .int (Z 21)) (C := RX7) (T := TX7) (N := 22) hx hb ht inX7 hown hK.1 hP25 0 rfl rfl 21 (by decide) (ht _ q_687) (fun _ h9 => h9) rfl dX7_sendOn_121 ?_
    refine k_calli (kRunS (As := [.int (Z 20), .int (Z 21)]) (rest := [.int 42, .ref h1]) kx (c_X7_has l G (Z 20) (Z 21)) q_814 q_812 q_36 q_813 nX7_has ⟨Nat.le_of_ble_eq_true rfl, Nat.le_of_ble_eq_true rfl⟩ hK hP25 hD26 (kCtx_nil _) rfl hl2.1 (Nat.le_of_ble_eq_true rfl) dX7_sendOn_124 ⟨Nat.zero_le _, Nat.zero_le _⟩) hP25 hD26 hS24 hA (kCtx_nil _) (fun _ => rfl) (fun r4 _ H45 locs45 hw hP45 hD45 hS45 => ?_)
    have hr4 : r_X7_has (Z 20) (Z 21) = r4 := (show r4 = r_X7_has (Z 20) (Z 21) from hw).symm
    have hP46 : va_P G.1 vwCl ([(h0, .inr (7, cM Z q1 q2 q3 q4 q5 q6 q7 q8 q9 q10 q11 sd)), (h1, .inl (G.2.1, 55, .inl (upd (upd (upd (upd (upd (upd (upd (upd f 34 1) 35 (f 5)) 36 (f 0)) 37 (f 1)) 38 (f 2)) 39 (f 7)) 40 (f 6)) 41 (f 10))))]) H45 := hP45
    have hD47 : va_D A ([(h0, .inr (7, cM Z q1 q2 q3 q4 q5 q6 q7 q8 q9 q10 q11 sd)), (h1, .inl (G.2.1, 55, .inl (upd (upd (upd (upd (upd (upd (upd (upd f 34 1) 35 (f 5)) 36 (f 0)) 37 (f 1)) 38 (f 2)) 39 (f 7)) 40 (f 6)) 41 (f 10))))]) := hD45
    refine lv_if_eq (x := r4) (tgt := 134) hx hb dX7_sendOn_127 (by decide) (fun (c5 : r4 = 0) => ?_) (fun (c5 : ¬ (r4 = 0)) => ?_)
    · skip
      refine lv_iconst (v := 0) hx hb dX7_sendOn_134 (by decide) ?_
      refine k_iast kx hK hP46 hD47 hS45 1 rfl 42 rfl (by decide) (by decide) dX7_sendOn_135 (fun H48 locs48 hP48 hD48 hS48 => ?_)
      have hP49 : va_P G.1 vwCl ([(h0, .inr (7, cM Z q1 q2 q3 q4 q5 q6 q7 q8 q9 q10 q11 sd)), (h1, .inl (G.2.1, 55, .inl (upd (upd (upd (upd (upd (upd (upd (upd (upd f 34 1) 35 (f 5)) 36 (f 0)) 37 (f 1)) 38 (f 2)) 39 (f 7)) 40 (f 6)) 41 (f 10)) 42 0)))]) H48 := hP48
      have hD50 : va_D A ([(h0, .inr (7, cM Z q1 q2 q3 q4 q5 q6 q7 q8 q9 q10 q11 sd)), (h1, .inl (G.2.1, 55, .inl (upd (upd (upd (upd (upd (upd (upd (upd (upd f 34 1) 35 (f 5)) 36 (f 0)) 37 (f 1)) 38 (f 2)) 39 (f 7)) 40 (f 6)) 41 (f 10)) 42 0)))]) := hD48
      refine lv_aload_n hx hb dX7_sendOn_136 rfl (lv_at hl2 2 rfl) ?_
      refine lv_aload_n hx hb dX7_sendOn_137 rfl (lv_at hl2 2 rfl) ?_
      refine va_get (ci := 7) (v := .int (Z 21)) (C := RX7) (T := TX7) (N := 22) hx hb ht inX7 hown hK.1 hP49 0 rfl rfl 21 (by decide) (ht _ q_687) (fun _ h9 => h9) rfl dX7_sendOn_138 ?_
      refine lv_bipush (v := 6) hx hb dX7_sendOn_141 (by decide) ?_
      refine lv_icmp_ge (x := Z 21) (y := 6) (tgt := 155) hx hb dX7_sendOn_143 (by decide) (fun (c6 : 6 ≤ Z 21) => absurd c6 c1) (fun (c6 : ¬ (6 ≤ Z 21)) => ?_)
      refine lv_aload_n hx hb dX7_sendOn_146 rfl (lv_at hl2 2 rfl) ?_
      refine va_get (ci := 7) (v := .int (Z 21)) (C := RX7) (T := TX7) (N := 22) hx hb ht inX7 hown hK.1 hP49 0 rfl rfl 21 (by decide) (ht _ q_687) (fun _ h9 => h9) rfl dX7_sendOn_147 ?_
      refine lv_iconst (v := 1) hx hb dX7_sendOn_150 (by decide) ?_
      refine lv_iadd hx hb dX7_sendOn_151 ?_
      refine lv_goto (tgt := 157) hx hb dX7_sendOn_152 (by decide) ?_
      refine va_put (ci := 7) (v := .int ((Z 21) + 1)) (ty := .int) (C := RX7) (T := TX7) (N := 22) hx hb ht inX7 tyX7 tyX7_ok nmX7 hown hK.1 hP49 hD50 hS48 0 rfl rfl 21 (by decide) (ht _ q_687) (fun _ h9 => h9) rfl (by decide +kernel) rfl rfl (Nat.le_of_ble_eq_true rfl) dX7_sendOn_157 (fun H51 locs51 hP51 hD51 hS51 => ?_)
      have hP52 : va_P G.1 vwCl ([(h0, .inr (7, cM (upd Z 21 ((Z 21) + 1)) q1 q2 q3 q4 q5 q6 q7 q8 q9 q10 q11 sd)), (h1, .inl (G.2.1, 55, .inl (upd (upd (upd (upd (upd (upd (upd (upd (upd f 34 1) 35 (f 5)) 36 (f 0)) 37 (f 1)) 38 (f 2)) 39 (f 7)) 40 (f 6)) 41 (f 10)) 42 0)))]) H51 := hP51
      have hD53 : va_D A ([(h0, .inr (7, cM (upd Z 21 ((Z 21) + 1)) q1 q2 q3 q4 q5 q6 q7 q8 q9 q10 q11 sd)), (h1, .inl (G.2.1, 55, .inl (upd (upd (upd (upd (upd (upd (upd (upd (upd f 34 1) 35 (f 5)) 36 (f 0)) 37 (f 1)) 38 (f 2)) 39 (f 7)) 40 (f 6)) 41 (f 10)) 42 0)))]) := hD51
      refine lv_aload_n hx hb dX7_sendOn_160 rfl (lv_at hl2 3 rfl) ?_
      refine lv_iload_n hx hb dX7_sendOn_161 rfl (lv_at hl2 1 rfl) ?_
      refine lv_bipush (v := 10) hx hb dX7_sendOn_162 (by decide) ?_
      refine lv_iadd hx hb dX7_sendOn_164 ?_
      refine k_top (y := 10) (by decide +kernel) ?_
      refine lv_iconst (v := 0) hx hb dX7_sendOn_165 (by decide) ?_
      refine k_iast kx hK hP52 hD53 hS51 1 rfl 10 rfl (by decide) (by decide) dX7_sendOn_166 (fun H54 locs54 hP54 hD54 hS54 => ?_)
      have hP55 : va_P G.1 vwCl ([(h0, .inr (7, cM (upd Z 21 ((Z 21) + 1)) q1 q2 q3 q4 q5 q6 q7 q8 q9 q10 q11 sd)), (h1, .inl (G.2.1, 55, .inl (upd (upd (upd (upd (upd (upd (upd (upd (upd (upd f 34 1) 35 (f 5)) 36 (f 0)) 37 (f 1)) 38 (f 2)) 39 (f 7)) 40 (f 6)) 41 (f 10)) 42 0) 10 0)))]) H54 := hP54
      have hD56 : va_D A ([(h0, .inr (7, cM (upd Z 21 ((Z 21) + 1)) q1 q2 q3 q4 q5 q6 q7 q8 q9 q10 q11 sd)), (h1, .inl (G.2.1, 55, .inl (upd (upd (upd (upd (upd (upd (upd (upd (upd (upd f 34 1) 35 (f 5)) 36 (f 0)) 37 (f 1)) 38 (f 2)) 39 (f 7)) 40 (f 6)) 41 (f 10)) 42 0) 10 0)))]) := hD54
      refine lv_aload_n hx hb dX7_sendOn_167 rfl (lv_at hl2 3 rfl) ?_
      refine lv_iload_n hx hb dX7_sendOn_168 rfl (lv_at hl2 1 rfl) ?_
      refine lv_bipush (v := 9) hx hb dX7_sendOn_169 (by decide) ?_
      refine lv_iadd hx hb dX7_sendOn_171 ?_
      refine k_top (y := 9) (by decide +kernel) ?_
      refine lv_aload_n hx hb dX7_sendOn_172 rfl (lv_at hl2 3 rfl) ?_
      refine lv_iload_n hx hb dX7_sendOn_173 rfl (lv_at hl2 1 rfl) ?_
      refine k_calli (kRunS (As := [.ref h1, .int 0]) (rest := [.int 9, .ref h1]) kx (c_X7_paceOn_0 l G (upd (upd (upd (upd (upd (upd (upd (upd (upd (upd f 34 1) 35 (f 5)) 36 (f 0)) 37 (f 1)) 38 (f 2)) 39 (f 7)) 40 (f 6)) 41 (f 10)) 42 0) 10 0) h1) q_817 q_815 q_36 q_816 nX7_paceOn ⟨Nat.le_of_ble_eq_true rfl, Nat.le_of_ble_eq_true rfl⟩ hK hP55 hD56 (kCtx_places _ _ [1] rfl rfl) rfl hl2.1 (Nat.le_of_ble_eq_true rfl) dX7_sendOn_174 ⟨Nat.zero_le _, Nat.zero_le _⟩) hP55 hD56 hS54 hA (kCtx_places _ _ [1] rfl rfl) (fun _ => rfl) (fun r7 _ H57 locs57 hw hP57 hD57 hS57 => ?_)
      have hr7 : r_X7_paceOn_0 (upd (upd (upd (upd (upd (upd (upd (upd (upd (upd f 34 1) 35 (f 5)) 36 (f 0)) 37 (f 1)) 38 (f 2)) 39 (f 7)) 40 (f 6)) 41 (f 10)) 42 0) 10 0) = r7 := (show r7 = r_X7_paceOn_0 (upd (upd (upd (upd (upd (upd (upd (upd (upd (upd f 34 1) 35 (f 5)) 36 (f 0)) 37 (f 1)) 38 (f 2)) 39 (f 7)) 40 (f 6)) 41 (f 10)) 42 0) 10 0) from hw).symm
      have hP58 : va_P G.1 vwCl ([(h0, .inr (7, cM (upd Z 21 ((Z 21) + 1)) q1 q2 q3 q4 q5 q6 q7 q8 q9 q10 q11 sd)), (h1, .inl (G.2.1, 55, .inl (upd (upd (upd (upd (upd (upd (upd (upd (upd (upd f 34 1) 35 (f 5)) 36 (f 0)) 37 (f 1)) 38 (f 2)) 39 (f 7)) 40 (f 6)) 41 (f 10)) 42 0) 10 0)))]) H57 := hP57
      have hD59 : va_D A ([(h0, .inr (7, cM (upd Z 21 ((Z 21) + 1)) q1 q2 q3 q4 q5 q6 q7 q8 q9 q10 q11 sd)), (h1, .inl (G.2.1, 55, .inl (upd (upd (upd (upd (upd (upd (upd (upd (upd (upd f 34 1) 35 (f 5)) 36 (f 0)) 37 (f 1)) 38 (f 2)) 39 (f 7)) 40 (f 6)) 41 (f 10)) 42 0) 10 0)))]) := hD57
      refine k_iast kx hK hP58 hD59 hS57 1 rfl 9 rfl (by decide) (by decide) dX7_sendOn_177 (fun H60 locs60 hP60 hD60 hS60 => ?_)
      have hP61 : va_P G.1 vwCl ([(h0, .inr (7, cM (upd Z 21 ((Z 21) + 1)) q1 q2 q3 q4 q5 q6 q7 q8 q9 q10 q11 sd)), (h1, .inl (G.2.1, 55, .inl (upd (upd (upd (upd (upd (upd (upd (upd (upd (upd (upd f 34 1) 35 (f 5)) 36 (f 0)) 37 (f 1)) 38 (f 2)) 39 (f 7)) 40 (f 6)) 41 (f 10)) 42 0) 10 0) 9 r7)))]) H60 := hP60
      have hD62 : va_D A ([(h0, .inr (7, cM (upd Z 21 ((Z 21) + 1)) q1 q2 q3 q4 q5 q6 q7 q8 q9 q10 q11 sd)), (h1, .inl (G.2.1, 55, .inl (upd (upd (upd (upd (upd (upd (upd (upd (upd (upd (upd f 34 1) 35 (f 5)) 36 (f 0)) 37 (f 1)) 38 (f 2)) 39 (f 7)) 40 (f 6)) 41 (f 10)) 42 0) 10 0) 9 r7)))]) := hD60
      refine lv_aload_n hx hb dX7_sendOn_178 rfl (lv_at hl2 3 rfl) ?_
      refine lv_bipush (v := 53) hx hb dX7_sendOn_179 (by decide) ?_
      refine lv_dup2_11 hx hb dX7_sendOn_181 rfl rfl ?_
      refine k_iald (v := (f 53)) kx hK hP61 1 rfl 53 rfl (by decide) (by decide) rfl dX7_sendOn_182 ?_
      refine lv_iconst (v := 1) hx hb dX7_sendOn_183 (by decide) ?_
      refine lv_iadd hx hb dX7_sendOn_184 ?_
      refine k_iast kx hK hP61 hD62 hS60 1 rfl 53 rfl (by decide) (by decide) dX7_sendOn_185 (fun H63 locs63 hP63 hD63 hS63 => ?_)
      have hP64 : va_P G.1 vwCl ([(h0, .inr (7, cM (upd Z 21 ((Z 21) + 1)) q1 q2 q3 q4 q5 q6 q7 q8 q9 q10 q11 sd)), (h1, .inl (G.2.1, 55, .inl (upd (upd (upd (upd (upd (upd (upd (upd (upd (upd (upd (upd f 34 1) 35 (f 5)) 36 (f 0)) 37 (f 1)) 38 (f 2)) 39 (f 7)) 40 (f 6)) 41 (f 10)) 42 0) 10 0) 9 r7) 53 ((f 53) + 1))))]) H63 := hP63
      have hD65 : va_D A ([(h0, .inr (7, cM (upd Z 21 ((Z 21) + 1)) q1 q2 q3 q4 q5 q6 q7 q8 q9 q10 q11 sd)), (h1, .inl (G.2.1, 55, .inl (upd (upd (upd (upd (upd (upd (upd (upd (upd (upd (upd (upd f 34 1) 35 (f 5)) 36 (f 0)) 37 (f 1)) 38 (f 2)) 39 (f 7)) 40 (f 6)) 41 (f 10)) 42 0) 10 0) 9 r7) 53 ((f 53) + 1))))]) := hD63
      have e0 : s_X7_sendOn_0_Z Z = upd Z 21 ((Z 21) + 1) := by rw [s_X7_sendOn_0_Z]; (try rw [hr4]); (try rw [hr7]); rw [if_neg c1, if_pos c5]
      have e1 : s_X7_sendOn_0_f Z f = upd (upd (upd (upd (upd (upd (upd (upd (upd (upd (upd (upd f 34 1) 35 (f 5)) 36 (f 0)) 37 (f 1)) 38 (f 2)) 39 (f 7)) 40 (f 6)) 41 (f 10)) 42 0) 10 0) 9 r7) 53 ((f 53) + 1) := by rw [s_X7_sendOn_0_f]; (try rw [hr4]); (try rw [hr7]); rw [if_neg c1, if_pos c5]
      exact k_vret kx hK hP64 hD65 hS63 (u := (upd Z 21 ((Z 21) + 1), upd (upd (upd (upd (upd (upd (upd (upd (upd (upd (upd (upd f 34 1) 35 (f 5)) 36 (f 0)) 37 (f 1)) 38 (f 2)) 39 (f 7)) 40 (f 6)) 41 (f 10)) 42 0) 10 0) 9 r7) 53 ((f 53) + 1))) rfl ⟨e0.symm, e1.symm⟩ dX7_sendOn_186
    · skip
      refine lv_iconst (v := 1) hx hb dX7_sendOn_130 (by decide) ?_
      refine lv_goto (tgt := 135) hx hb dX7_sendOn_131 (by decide) ?_
      refine k_iast kx hK hP46 hD47 hS45 1 rfl 42 rfl (by decide) (by decide) dX7_sendOn_135 (fun H66 locs66 hP66 hD66 hS66 => ?_)
      have hP67 : va_P G.1 vwCl ([(h0, .inr (7, cM Z q1 q2 q3 q4 q5 q6 q7 q8 q9 q10 q11 sd)), (h1, .inl (G.2.1, 55, .inl (upd (upd (upd (upd (upd (upd (upd (upd (upd f 34 1) 35 (f 5)) 36 (f 0)) 37 (f 1)) 38 (f 2)) 39 (f 7)) 40 (f 6)) 41 (f 10)) 42 1)))]) H66 := hP66
      have hD68 : va_D A ([(h0, .inr (7, cM Z q1 q2 q3 q4 q5 q6 q7 q8 q9 q10 q11 sd)), (h1, .inl (G.2.1, 55, .inl (upd (upd (upd (upd (upd (upd (upd (upd (upd f 34 1) 35 (f 5)) 36 (f 0)) 37 (f 1)) 38 (f 2)) 39 (f 7)) 40 (f 6)) 41 (f 10)) 42 1)))]) := hD66
      refine lv_aload_n hx hb dX7_sendOn_136 rfl (lv_at hl2 2 rfl) ?_
      refine lv_aload_n hx hb dX7_sendOn_137 rfl (lv_at hl2 2 rfl) ?_
      refine va_get (ci := 7) (v := .int (Z 21)) (C := RX7) (T := TX7) (N := 22) hx hb ht inX7 hown hK.1 hP67 0 rfl rfl 21 (by decide) (ht _ q_687) (fun _ h9 => h9) rfl dX7_sendOn_138 ?_
      refine lv_bipush (v := 6) hx hb dX7_sendOn_141 (by decide) ?_
      refine lv_icmp_ge (x := Z 21) (y := 6) (tgt := 155) hx hb dX7_sendOn_143 (by decide) (fun (c8 : 6 ≤ Z 21) => absurd c8 c1) (fun (c8 : ¬ (6 ≤ Z 21)) => ?_)
      refine lv_aload_n hx hb dX7_sendOn_146 rfl (lv_at hl2 2 rfl) ?_
      refine va_get (ci := 7) (v := .int (Z 21)) (C := RX7) (T := TX7) (N := 22) hx hb ht inX7 hown hK.1 hP67 0 rfl rfl 21 (by decide) (ht _ q_687) (fun _ h9 => h9) rfl dX7_sendOn_147 ?_
      refine lv_iconst (v := 1) hx hb dX7_sendOn_150 (by decide) ?_
      refine lv_iadd hx hb dX7_sendOn_151 ?_
      refine lv_goto (tgt := 157) hx hb dX7_sendOn_152 (by decide) ?_
      refine va_put (ci := 7) (v := .int ((Z 21) + 1)) (ty := .int) (C := RX7) (T := TX7) (N := 22) hx hb ht inX7 tyX7 tyX7_ok nmX7 hown hK.1 hP67 hD68 hS66 0 rfl rfl 21 (by decide) (ht _ q_687) (fun _ h9 => h9) rfl (by decide +kernel) rfl rfl (Nat.le_of_ble_eq_true rfl) dX7_sendOn_157 (fun H69 locs69 hP69 hD69 hS69 => ?_)
      have hP70 : va_P G.1 vwCl ([(h0, .inr (7, cM (upd Z 21 ((Z 21) + 1)) q1 q2 q3 q4 q5 q6 q7 q8 q9 q10 q11 sd)), (h1, .inl (G.2.1, 55, .inl (upd (upd (upd (upd (upd (upd (upd (upd (upd f 34 1) 35 (f 5)) 36 (f 0)) 37 (f 1)) 38 (f 2)) 39 (f 7)) 40 (f 6)) 41 (f 10)) 42 1)))]) H69 := hP69
      have hD71 : va_D A ([(h0, .inr (7, cM (upd Z 21 ((Z 21) + 1)) q1 q2 q3 q4 q5 q6 q7 q8 q9 q10 q11 sd)), (h1, .inl (G.2.1, 55, .inl (upd (upd (upd (upd (upd (upd (upd (upd (upd f 34 1) 35 (f 5)) 36 (f 0)) 37 (f 1)) 38 (f 2)) 39 (f 7)) 40 (f 6)) 41 (f 10)) 42 1)))]) := hD69
      refine lv_aload_n hx hb dX7_sendOn_160 rfl (lv_at hl2 3 rfl) ?_
      refine lv_iload_n hx hb dX7_sendOn_161 rfl (lv_at hl2 1 rfl) ?_
      refine lv_bipush (v := 10) hx hb dX7_sendOn_162 (by decide) ?_
      refine lv_iadd hx hb dX7_sendOn_164 ?_
      refine k_top (y := 10) (by decide +kernel) ?_
      refine lv_iconst (v := 0) hx hb dX7_sendOn_165 (by decide) ?_
      refine k_iast kx hK hP70 hD71 hS69 1 rfl 10 rfl (by decide) (by decide) dX7_sendOn_166 (fun H72 locs72 hP72 hD72 hS72 => ?_)
      have hP73 : va_P G.1 vwCl ([(h0, .inr (7, cM (upd Z 21 ((Z 21) + 1)) q1 q2 q3 q4 q5 q6 q7 q8 q9 q10 q11 sd)), (h1, .inl (G.2.1, 55, .inl (upd (upd (upd (upd (upd (upd (upd (upd (upd (upd f 34 1) 35 (f 5)) 36 (f 0)) 37 (f 1)) 38 (f 2)) 39 (f 7)) 40 (f 6)) 41 (f 10)) 42 1) 10 0)))]) H72 := hP72
      have hD74 : va_D A ([(h0, .inr (7, cM (upd Z 21 ((Z 21) + 1)) q1 q2 q3 q4 q5 q6 q7 q8 q9 q10 q11 sd)), (h1, .inl (G.2.1, 55, .inl (upd (upd (upd (upd (upd (upd (upd (upd (upd (upd f 34 1) 35 (f 5)) 36 (f 0)) 37 (f 1)) 38 (f 2)) 39 (f 7)) 40 (f 6)) 41 (f 10)) 42 1) 10 0)))]) := hD72
      refine lv_aload_n hx hb dX7_sendOn_167 rfl (lv_at hl2 3 rfl) ?_
      refine lv_iload_n hx hb dX7_sendOn_168 rfl (lv_at hl2 1 rfl) ?_
      refine lv_bipush (v := 9) hx hb dX7_sendOn_169 (by decide) ?_
      refine lv_iadd hx hb dX7_sendOn_171 ?_
      refine k_top (y := 9) (by decide +kernel) ?_
      refine lv_aload_n hx hb dX7_sendOn_172 rfl (lv_at hl2 3 rfl) ?_
      refine lv_iload_n hx hb dX7_sendOn_173 rfl (lv_at hl2 1 rfl) ?_
      refine k_calli (kRunS (As := [.ref h1, .int 0]) (rest := [.int 9, .ref h1]) kx (c_X7_paceOn_0 l G (upd (upd (upd (upd (upd (upd (upd (upd (upd (upd f 34 1) 35 (f 5)) 36 (f 0)) 37 (f 1)) 38 (f 2)) 39 (f 7)) 40 (f 6)) 41 (f 10)) 42 1) 10 0) h1) q_817 q_815 q_36 q_816 nX7_paceOn ⟨Nat.le_of_ble_eq_true rfl, Nat.le_of_ble_eq_true rfl⟩ hK hP73 hD74 (kCtx_places _ _ [1] rfl rfl) rfl hl2.1 (Nat.le_of_ble_eq_true rfl) dX7_sendOn_174 ⟨Nat.zero_le _, Nat.zero_le _⟩) hP73 hD74 hS72 hA (kCtx_places _ _ [1] rfl rfl) (fun _ => rfl) (fun r9 _ H75 locs75 hw hP75 hD75 hS75 => ?_)
      have hr9 : r_X7_paceOn_0 (upd (upd (upd (upd (upd (upd (upd (upd (upd (upd f 34 1) 35 (f 5)) 36 (f 0)) 37 (f 1)) 38 (f 2)) 39 (f 7)) 40 (f 6)) 41 (f 10)) 42 1) 10 0) = r9 := (show r9 = r_X7_paceOn_0 (upd (upd (upd (upd (upd (upd (upd (upd (upd (upd f 34 1) 35 (f 5)) 36 (f 0)) 37 (f 1)) 38 (f 2)) 39 (f 7)) 40 (f 6)) 41 (f 10)) 42 1) 10 0) from hw).symm
      have hP76 : va_P G.1 vwCl ([(h0, .inr (7, cM (upd Z 21 ((Z 21) + 1)) q1 q2 q3 q4 q5 q6 q7 q8 q9 q10 q11 sd)), (h1, .inl (G.2.1, 55, .inl (upd (upd (upd (upd (upd (upd (upd (upd (upd (upd f 34 1) 35 (f 5)) 36 (f 0)) 37 (f 1)) 38 (f 2)) 39 (f 7)) 40 (f 6)) 41 (f 10)) 42 1) 10 0)))]) H75 := hP75
      have hD77 : va_D A ([(h0, .inr (7, cM (upd Z 21 ((Z 21) + 1)) q1 q2 q3 q4 q5 q6 q7 q8 q9 q10 q11 sd)), (h1, .inl (G.2.1, 55, .inl (upd (upd (upd (upd (upd (upd (upd (upd (upd (upd f 34 1) 35 (f 5)) 36 (f 0)) 37 (f 1)) 38 (f 2)) 39 (f 7)) 40 (f 6)) 41 (f 10)) 42 1) 10 0)))]) := hD75
      refine k_iast kx hK hP76 hD77 hS75 1 rfl 9 rfl (by decide) (by decide) dX7_sendOn_177 (fun H78 locs78 hP78 hD78 hS78 => ?_)
      have hP79 : va_P G.1 vwCl ([(h0, .inr (7, cM (upd Z 21 ((Z 21) + 1)) q1 q2 q3 q4 q5 q6 q7 q8 q9 q10 q11 sd)), (h1, .inl (G.2.1, 55, .inl (upd (upd (upd (upd (upd (upd (upd (upd (upd (upd (upd f 34 1) 35 (f 5)) 36 (f 0)) 37 (f 1)) 38 (f 2)) 39 (f 7)) 40 (f 6)) 41 (f 10)) 42 1) 10 0) 9 r9)))]) H78 := hP78
      have hD80 : va_D A ([(h0, .inr (7, cM (upd Z 21 ((Z 21) + 1)) q1 q2 q3 q4 q5 q6 q7 q8 q9 q10 q11 sd)), (h1, .inl (G.2.1, 55, .inl (upd (upd (upd (upd (upd (upd (upd (upd (upd (upd (upd f 34 1) 35 (f 5)) 36 (f 0)) 37 (f 1)) 38 (f 2)) 39 (f 7)) 40 (f 6)) 41 (f 10)) 42 1) 10 0) 9 r9)))]) := hD78
      refine lv_aload_n hx hb dX7_sendOn_178 rfl (lv_at hl2 3 rfl) ?_
      refine lv_bipush (v := 53) hx hb dX7_sendOn_179 (by decide) ?_
      refine lv_dup2_11 hx hb dX7_sendOn_181 rfl rfl ?_
      refine k_iald (v := (f 53)) kx hK hP79 1 rfl 53 rfl (by decide) (by decide) rfl dX7_sendOn_182 ?_
      refine lv_iconst (v := 1) hx hb dX7_sendOn_183 (by decide) ?_
      refine lv_iadd hx hb dX7_sendOn_184 ?_
      refine k_iast kx hK hP79 hD80 hS78 1 rfl 53 rfl (by decide) (by decide) dX7_sendOn_185 (fun H81 locs81 hP81 hD81 hS81 => ?_)
      have hP82 : va_P G.1 vwCl ([(h0, .inr (7, cM (upd Z 21 ((Z 21) + 1)) q1 q2 q3 q4 q5 q6 q7 q8 q9 q10 q11 sd)), (h1, .inl (G.2.1, 55, .inl (upd (upd (upd (upd (upd (upd (upd (upd (upd (upd (upd (upd f 34 1) 35 (f 5)) 36 (f 0)) 37 (f 1)) 38 (f 2)) 39 (f 7)) 40 (f 6)) 41 (f 10)) 42 1) 10 0) 9 r9) 53 ((f 53) + 1))))]) H81 := hP81
      have hD83 : va_D A ([(h0, .inr (7, cM (upd Z 21 ((Z 21) + 1)) q1 q2 q3 q4 q5 q6 q7 q8 q9 q10 q11 sd)), (h1, .inl (G.2.1, 55, .inl (upd (upd (upd (upd (upd (upd (upd (upd (upd (upd (upd (upd f 34 1) 35 (f 5)) 36 (f 0)) 37 (f 1)) 38 (f 2)) 39 (f 7)) 40 (f 6)) 41 (f 10)) 42 1) 10 0) 9 r9) 53 ((f 53) + 1))))]) := hD81
      have e0 : s_X7_sendOn_0_Z Z = upd Z 21 ((Z 21) + 1) := by rw [s_X7_sendOn_0_Z]; (try rw [hr4]); (try rw [hr9]); rw [if_neg c1, if_neg c5]
      have e1 : s_X7_sendOn_0_f Z f = upd (upd (upd (upd (upd (upd (upd (upd (upd (upd (upd (upd f 34 1) 35 (f 5)) 36 (f 0)) 37 (f 1)) 38 (f 2)) 39 (f 7)) 40 (f 6)) 41 (f 10)) 42 1) 10 0) 9 r9) 53 ((f 53) + 1) := by rw [s_X7_sendOn_0_f]; (try rw [hr4]); (try rw [hr9]); rw [if_neg c1, if_neg c5]
      exact k_vret kx hK hP82 hD83 hS81 (u := (upd Z 21 ((Z 21) + 1), upd (upd (upd (upd (upd (upd (upd (upd (upd (upd (upd (upd f 34 1) 35 (f 5)) 36 (f 0)) 37 (f 1)) 38 (f 2)) 39 (f 7)) 40 (f 6)) 41 (f 10)) 42 1) 10 0) 9 r9) 53 ((f 53) + 1))) rfl ⟨e0.symm, e1.symm⟩ dX7_sendOn_186

def s_X7_sendOn_1_Z (Z : Nat → Int32) : Nat → Int32 := if 6 ≤ Z 21 then (upd Z 21 6) else if (r_X7_has (Z 20) (Z 21)) = 0 then (upd Z 21 ((Z 21) + 1)) else upd Z 21 ((Z 21) + 1)
def s_X7_sendOn_1_f (Z : Nat → Int32) (f : Nat → Int32) : Nat → Int32 := if 6 ≤ Z 21 then (upd (upd (upd (upd (upd (upd (upd (upd (upd (upd (upd (upd f 43 1) 44 (f 21)) 45 (f 16)) 46 (f 17)) 47 (f 18)) 48 (f 23)) 49 (f 22)) 50 (f 26)) 51 0) 26 0) 25 (r_X7_paceOn_16 (upd (upd (upd (upd (upd (upd (upd (upd (upd (upd f 43 1) 44 (f 21)) 45 (f 16)) 46 (f 17)) 47 (f 18)) 48 (f 23)) 49 (f 22)) 50 (f 26)) 51 0) 26 0))) 53 ((f 53) + 1)) else if (r_X7_has (Z 20) (Z 21)) = 0 then (upd (upd (upd (upd (upd (upd (upd (upd (upd (upd (upd (upd f 43 1) 44 (f 21)) 45 (f 16)) 46 (f 17)) 47 (f 18)) 48 (f 23)) 49 (f 22)) 50 (f 26)) 51 0) 26 0) 25 (r_X7_paceOn_16 (upd (upd (upd (upd (upd (upd (upd (upd (upd (upd f 43 1) 44 (f 21)) 45 (f 16)) 46 (f 17)) 47 (f 18)) 48 (f 23)) 49 (f 22)) 50 (f 26)) 51 0) 26 0))) 53 ((f 53) + 1)) else upd (upd (upd (upd (upd (upd (upd (upd (upd (upd (upd (upd f 43 1) 44 (f 21)) 45 (f 16)) 46 (f 17)) 47 (f 18)) 48 (f 23)) 49 (f 22)) 50 (f 26)) 51 1) 26 0) 25 (r_X7_paceOn_16 (upd (upd (upd (upd (upd (upd (upd (upd (upd (upd f 43 1) 44 (f 21)) 45 (f 16)) 46 (f 17)) 47 (f 18)) 48 (f 23)) 49 (f 22)) 50 (f 26)) 51 1) 26 0))) 53 ((f 53) + 1)
set_option maxHeartbeats 4000000 in
set_option maxRecDepth 100000 in
theorem c_X7_sendOn_1 (l : Launch) (G : kG) (Z : Nat → Int32) (sd : Int64) (h0 : Nat) (q1 : Nat) (q2 : Nat) (q3 : Nat) (q4 : Nat) (q5 : Nat) (q6 : Nat) (q7 : Nat) (q8 : Nat) (q9 : Nat) (q10 : Nat) (q11 : Nat) (f : Nat → Int32) (h1 : Nat) : cG l G yX7_sendOn cX7_sendOn 5 none 2 [.ref h0, .ref h1, .int 1] ([(h0, .inr (7, cM Z q1 q2 q3 q4 q5 q6 q7 q8 q9 q10 q11 sd)), (h1, .inl (G.2.1, 55, .inl f))]) (qV G (fun u : ((Nat → Int32) × (Nat → Int32)) => u.1 = s_X7_sendOn_1_Z Z ∧ u.2 = s_X7_sendOn_1_f Z f) (fun u => [(h0, .inr (7, cM u.1 q1 q2 q3 q4 q5 q6 q7 q8 q9 q10 q11 sd)), (h1, .inl (G.2.1, 55, .inl u.2))])) := by
  refine kintro (by decide) (Nat.le_of_ble_eq_true rfl) ?_
  intro p e s m args below meth c A ls kx hK hP hD hS hA hl
  have kx : kX p s m args meth c cX7_sendOn 5 none RX7 := kx
  have hx := kx.1
  have hb := kx.2.1
  have hown := kx.2.2.2.2.1
  have ht := kx.2.2.2.2.2.2
  have hl : lv_has ls 5 [(0, .ref h0), (1, .ref h1), (2, .int 1)] := hl
  refine lv_bipush (v := 16) hx hb dX7_sendOn_0 (by decide) ?_
  refine lv_iload_n hx hb dX7_sendOn_2 rfl (lv_at hl 2 rfl) ?_
  refine lv_imul hx hb dX7_sendOn_3 ?_
  refine k_top (y := 16) (by decide +kernel) ?_
  refine lv_istore_n (lv' := [(3, .int 16), (0, .ref h0), (1, .ref h1), (2, .int 1)]) hx hb dX7_sendOn_4 rfl hl (by decide) rfl (fun ls1 hl1 => ?_)
  refine lv_bipush (v := 34) hx hb dX7_sendOn_5 (by decide) ?_
  refine lv_bipush (v := 9) hx hb dX7_sendOn_7 (by decide) ?_
  refine lv_iload_n hx hb dX7_sendOn_9 rfl (lv_at hl1 3 rfl) ?_
  refine lv_imul hx hb dX7_sendOn_10 ?_
  refine k_top (y := 9) (by decide +kernel) ?_
  refine lv_iadd hx hb dX7_sendOn_11 ?_
  refine k_top (y := 43) (by decide +kernel) ?_
  refine lv_istore (lv' := [(4, .int 43), (3, .int 16), (0, .ref h0), (1, .ref h1), (2, .int 1)]) hx hb dX7_sendOn_12 hl1 (by decide) rfl (fun ls2 hl2 => ?_)
  refine lv_aload_n hx hb dX7_sendOn_14 rfl (lv_at hl2 3 rfl) ?_
  refine lv_iload hx hb dX7_sendOn_15 (lv_at hl2 0 rfl) ?_
  refine lv_iconst (v := 1) hx hb dX7_sendOn_17 (by decide) ?_
  refine k_iast kx hK hP hD hS 1 rfl 43 rfl (by decide) (by decide) dX7_sendOn_18 (fun H3 locs3 hP3 hD3 hS3 => ?_)
  have hP4 : va_P G.1 vwCl ([(h0, .inr (7, cM Z q1 q2 q3 q4 q5 q6 q7 q8 q9 q10 q11 sd)), (h1, .inl (G.2.1, 55, .inl (upd f 43 1)))]) H3 := hP3
  have hD5 : va_D A ([(h0, .inr (7, cM Z q1 q2 q3 q4 q5 q6 q7 q8 q9 q10 q11 sd)), (h1, .inl (G.2.1, 55, .inl (upd f 43 1)))]) := hD3
  refine lv_aload_n hx hb dX7_sendOn_19 rfl (lv_at hl2 3 rfl) ?_
  refine lv_iload hx hb dX7_sendOn_20 (lv_at hl2 0 rfl) ?_
  refine lv_iconst (v := 1) hx hb dX7_sendOn_22 (by decide) ?_
  refine lv_iadd hx hb dX7_sendOn_23 ?_
  refine k_top (y := 44) (by decide +kernel) ?_
  refine lv_aload_n hx hb dX7_sendOn_24 rfl (lv_at hl2 3 rfl) ?_
  refine lv_iload_n hx hb dX7_sendOn_25 rfl (lv_at hl2 1 rfl) ?_
  refine lv_iconst (v := 5) hx hb dX7_sendOn_26 (by decide) ?_
  refine lv_iadd hx hb dX7_sendOn_27 ?_
  refine k_top (y := 21) (by decide +kernel) ?_
  refine k_iald (v := (f 21)) kx hK hP4 1 rfl 21 rfl (by decide) (by decide) rfl dX7_sendOn_28 ?_
  refine k_iast kx hK hP4 hD5 hS3 1 rfl 44 rfl (by decide) (by decide) dX7_sendOn_29 (fun H6 locs6 hP6 hD6 hS6 => ?_)
  have hP7 : va_P G.1 vwCl ([(h0, .inr (7, cM Z q1 q2 q3 q4 q5 q6 q7 q8 q9 q10 q11 sd)), (h1, .inl (G.2.1, 55, .inl (upd (upd f 43 1) 44 (f 21))))]) H6 := hP6
  have hD8 : va_D A ([(h0, .inr (7, cM Z q1 q2 q3 q4 q5 q6 q7 q8 q9 q10 q11 sd)), (h1, .inl (G.2.1, 55, .inl (upd (upd f 43 1) 44 (f 21))))]) := hD6
  refine lv_aload_n hx hb dX7_sendOn_30 rfl (lv_at hl2 3 rfl) ?_
  refine lv_iload hx hb dX7_sendOn_31 (lv_at hl2 0 rfl) ?_
  refine lv_iconst (v := 2) hx hb dX7_sendOn_33 (by decide) ?_
  refine lv_iadd hx hb dX7_sendOn_34 ?_
  refine k_top (y := 45) (by decide +kernel) ?_
  refine lv_aload_n hx hb dX7_sendOn_35 rfl (lv_at hl2 3 rfl) ?_
  refine lv_iload_n hx hb dX7_sendOn_36 rfl (lv_at hl2 1 rfl) ?_
  refine lv_iconst (v := 0) hx hb dX7_sendOn_37 (by decide) ?_
  refine lv_iadd hx hb dX7_sendOn_38 ?_
  refine k_top (y := 16) (by decide +kernel) ?_
  refine k_iald (v := (f 16)) kx hK hP7 1 rfl 16 rfl (by decide) (by decide) rfl dX7_sendOn_39 ?_
  refine k_iast kx hK hP7 hD8 hS6 1 rfl 45 rfl (by decide) (by decide) dX7_sendOn_40 (fun H9 locs9 hP9 hD9 hS9 => ?_)
  have hP10 : va_P G.1 vwCl ([(h0, .inr (7, cM Z q1 q2 q3 q4 q5 q6 q7 q8 q9 q10 q11 sd)), (h1, .inl (G.2.1, 55, .inl (upd (upd (upd f 43 1) 44 (f 21)) 45 (f 16))))]) H9 := hP9
  have hD11 : va_D A ([(h0, .inr (7, cM Z q1 q2 q3 q4 q5 q6 q7 q8 q9 q10 q11 sd)), (h1, .inl (G.2.1, 55, .inl (upd (upd (upd f 43 1) 44 (f 21)) 45 (f 16))))]) := hD9
  refine lv_aload_n hx hb dX7_sendOn_41 rfl (lv_at hl2 3 rfl) ?_
  refine lv_iload hx hb dX7_sendOn_42 (lv_at hl2 0 rfl) ?_
  refine lv_iconst (v := 3) hx hb dX7_sendOn_44 (by decide) ?_
  refine lv_iadd hx hb dX7_sendOn_45 ?_
  refine k_top (y := 46) (by decide +kernel) ?_
  refine lv_aload_n hx hb dX7_sendOn_46 rfl (lv_at hl2 3 rfl) ?_
  refine lv_iload_n hx hb dX7_sendOn_47 rfl (lv_at hl2 1 rfl) ?_
  refine lv_iconst (v := 1) hx hb dX7_sendOn_48 (by decide) ?_
  refine lv_iadd hx hb dX7_sendOn_49 ?_
  refine k_top (y := 17) (by decide +kernel) ?_
  refine k_iald (v := (f 17)) kx hK hP10 1 rfl 17 rfl (by decide) (by decide) rfl dX7_sendOn_50 ?_
  refine k_iast kx hK hP10 hD11 hS9 1 rfl 46 rfl (by decide) (by decide) dX7_sendOn_51 (fun H12 locs12 hP12 hD12 hS12 => ?_)
  have hP13 : va_P G.1 vwCl ([(h0, .inr (7, cM Z q1 q2 q3 q4 q5 q6 q7 q8 q9 q10 q11 sd)), (h1, .inl (G.2.1, 55, .inl (upd (upd (upd (upd f 43 1) 44 (f 21)) 45 (f 16)) 46 (f 17))))]) H12 := hP12
  have hD14 : va_D A ([(h0, .inr (7, cM Z q1 q2 q3 q4 q5 q6 q7 q8 q9 q10 q11 sd)), (h1, .inl (G.2.1, 55, .inl (upd (upd (upd (upd f 43 1) 44 (f 21)) 45 (f 16)) 46 (f 17))))]) := hD12
  refine lv_aload_n hx hb dX7_sendOn_52 rfl (lv_at hl2 3 rfl) ?_
  refine lv_iload hx hb dX7_sendOn_53 (lv_at hl2 0 rfl) ?_
  refine lv_iconst (v := 4) hx hb dX7_sendOn_55 (by decide) ?_
  refine lv_iadd hx hb dX7_sendOn_56 ?_
  refine k_top (y := 47) (by decide +kernel) ?_
  refine lv_aload_n hx hb dX7_sendOn_57 rfl (lv_at hl2 3 rfl) ?_
  refine lv_iload_n hx hb dX7_sendOn_58 rfl (lv_at hl2 1 rfl) ?_
  refine lv_iconst (v := 2) hx hb dX7_sendOn_59 (by decide) ?_
  refine lv_iadd hx hb dX7_sendOn_60 ?_
  refine k_top (y := 18) (by decide +kernel) ?_
  refine k_iald (v := (f 18)) kx hK hP13 1 rfl 18 rfl (by decide) (by decide) rfl dX7_sendOn_61 ?_
  refine k_iast kx hK hP13 hD14 hS12 1 rfl 47 rfl (by decide) (by decide) dX7_sendOn_62 (fun H15 locs15 hP15 hD15 hS15 => ?_)
  have hP16 : va_P G.1 vwCl ([(h0, .inr (7, cM Z q1 q2 q3 q4 q5 q6 q7 q8 q9 q10 q11 sd)), (h1, .inl (G.2.1, 55, .inl (upd (upd (upd (upd (upd f 43 1) 44 (f 21)) 45 (f 16)) 46 (f 17)) 47 (f 18))))]) H15 := hP15
  have hD17 : va_D A ([(h0, .inr (7, cM Z q1 q2 q3 q4 q5 q6 q7 q8 q9 q10 q11 sd)), (h1, .inl (G.2.1, 55, .inl (upd (upd (upd (upd (upd f 43 1) 44 (f 21)) 45 (f 16)) 46 (f 17)) 47 (f 18))))]) := hD15
  refine lv_aload_n hx hb dX7_sendOn_63 rfl (lv_at hl2 3 rfl) ?_
  refine lv_iload hx hb dX7_sendOn_64 (lv_at hl2 0 rfl) ?_
  refine lv_iconst (v := 5) hx hb dX7_sendOn_66 (by decide) ?_
  refine lv_iadd hx hb dX7_sendOn_67 ?_
  refine k_top (y := 48) (by decide +kernel) ?_
  refine lv_aload_n hx hb dX7_sendOn_68 rfl (lv_at hl2 3 rfl) ?_
  refine lv_iload_n hx hb dX7_sendOn_69 rfl (lv_at hl2 1 rfl) ?_
  refine lv_bipush (v := 7) hx hb dX7_sendOn_70 (by decide) ?_
  refine lv_iadd hx hb dX7_sendOn_72 ?_
  refine k_top (y := 23) (by decide +kernel) ?_
  refine k_iald (v := (f 23)) kx hK hP16 1 rfl 23 rfl (by decide) (by decide) rfl dX7_sendOn_73 ?_
  refine k_iast kx hK hP16 hD17 hS15 1 rfl 48 rfl (by decide) (by decide) dX7_sendOn_74 (fun H18 locs18 hP18 hD18 hS18 => ?_)
  have hP19 : va_P G.1 vwCl ([(h0, .inr (7, cM Z q1 q2 q3 q4 q5 q6 q7 q8 q9 q10 q11 sd)), (h1, .inl (G.2.1, 55, .inl (upd (upd (upd (upd (upd (upd f 43 1) 44 (f 21)) 45 (f 16)) 46 (f 17)) 47 (f 18)) 48 (f 23))))]) H18 := hP18
  have hD20 : va_D A ([(h0, .inr (7, cM Z q1 q2 q3 q4 q5 q6 q7 q8 q9 q10 q11 sd)), (h1, .inl (G.2.1, 55, .inl (upd (upd (upd (upd (upd (upd f 43 1) 44 (f 21)) 45 (f 16)) 46 (f 17)) 47 (f 18)) 48 (f 23))))]) := hD18
  refine lv_aload_n hx hb dX7_sendOn_75 rfl (lv_at hl2 3 rfl) ?_
  refine lv_iload hx hb dX7_sendOn_76 (lv_at hl2 0 rfl) ?_
  refine lv_bipush (v := 6) hx hb dX7_sendOn_78 (by decide) ?_
  refine lv_iadd hx hb dX7_sendOn_80 ?_
  refine k_top (y := 49) (by decide +kernel) ?_
  refine lv_aload_n hx hb dX7_sendOn_81 rfl (lv_at hl2 3 rfl) ?_
  refine lv_iload_n hx hb dX7_sendOn_82 rfl (lv_at hl2 1 rfl) ?_
  refine lv_bipush (v := 6) hx hb dX7_sendOn_83 (by decide) ?_
  refine lv_iadd hx hb dX7_sendOn_85 ?_
  refine k_top (y := 22) (by decide +kernel) ?_
  refine k_iald (v := (f 22)) kx hK hP19 1 rfl 22 rfl (by decide) (by decide) rfl dX7_sendOn_86 ?_
  refine k_iast kx hK hP19 hD20 hS18 1 rfl 49 rfl (by decide) (by decide) dX7_sendOn_87 (fun H21 locs21 hP21 hD21 hS21 => ?_)
  have hP22 : va_P G.1 vwCl ([(h0, .inr (7, cM Z q1 q2 q3 q4 q5 q6 q7 q8 q9 q10 q11 sd)), (h1, .inl (G.2.1, 55, .inl (upd (upd (upd (upd (upd (upd (upd f 43 1) 44 (f 21)) 45 (f 16)) 46 (f 17)) 47 (f 18)) 48 (f 23)) 49 (f 22))))]) H21 := hP21
  have hD23 : va_D A ([(h0, .inr (7, cM Z q1 q2 q3 q4 q5 q6 q7 q8 q9 q10 q11 sd)), (h1, .inl (G.2.1, 55, .inl (upd (upd (upd (upd (upd (upd (upd f 43 1) 44 (f 21)) 45 (f 16)) 46 (f 17)) 47 (f 18)) 48 (f 23)) 49 (f 22))))]) := hD21
  refine lv_aload_n hx hb dX7_sendOn_88 rfl (lv_at hl2 3 rfl) ?_
  refine lv_iload hx hb dX7_sendOn_89 (lv_at hl2 0 rfl) ?_
  refine lv_bipush (v := 7) hx hb dX7_sendOn_91 (by decide) ?_
  refine lv_iadd hx hb dX7_sendOn_93 ?_
  refine k_top (y := 50) (by decide +kernel) ?_
  refine lv_aload_n hx hb dX7_sendOn_94 rfl (lv_at hl2 3 rfl) ?_
  refine lv_iload_n hx hb dX7_sendOn_95 rfl (lv_at hl2 1 rfl) ?_
  refine lv_bipush (v := 10) hx hb dX7_sendOn_96 (by decide) ?_
  refine lv_iadd hx hb dX7_sendOn_98 ?_
  refine k_top (y := 26) (by decide +kernel) ?_
  refine k_iald (v := (f 26)) kx hK hP22 1 rfl 26 rfl (by decide) (by decide) rfl dX7_sendOn_99 ?_
  refine k_iast kx hK hP22 hD23 hS21 1 rfl 50 rfl (by decide) (by decide) dX7_sendOn_100 (fun H24 locs24 hP24 hD24 hS24 => ?_)
  have hP25 : va_P G.1 vwCl ([(h0, .inr (7, cM Z q1 q2 q3 q4 q5 q6 q7 q8 q9 q10 q11 sd)), (h1, .inl (G.2.1, 55, .inl (upd (upd (upd (upd (upd (upd (upd (upd f 43 1) 44 (f 21)) 45 (f 16)) 46 (f 17)) 47 (f 18)) 48 (f 23)) 49 (f 22)) 50 (f 26))))]) H24 := hP24
  have hD26 : va_D A ([(h0, .inr (7, cM Z q1 q2 q3 q4 q5 q6 q7 q8 q9 q10 q11 sd)), (h1, .inl (G.2.1, 55, .inl (upd (upd (upd (upd (upd (upd (upd (upd f 43 1) 44 (f 21)) 45 (f 16)) 46 (f 17)) 47 (f 18)) 48 (f 23)) 49 (f 22)) 50 (f 26))))]) := hD24
  refine lv_aload_n hx hb dX7_sendOn_101 rfl (lv_at hl2 3 rfl) ?_
  refine lv_iload hx hb dX7_sendOn_102 (lv_at hl2 0 rfl) ?_
  refine lv_bipush (v := 8) hx hb dX7_sendOn_104 (by decide) ?_
  refine lv_iadd hx hb dX7_sendOn_106 ?_
  refine k_top (y := 51) (by decide +kernel) ?_
  refine lv_aload_n hx hb dX7_sendOn_107 rfl (lv_at hl2 2 rfl) ?_
  refine va_get (ci := 7) (v := .int (Z 21)) (C := RX7) (T := TX7) (N := 22) hx hb ht inX7 hown hK.1 hP25 0 rfl rfl 21 (by decide) (ht _ q_687) (fun _ h9 => h9) rfl dX7_sendOn_108 ?_
  refine lv_bipush (v := 6) hx hb dX7_sendOn_111 (by decide) ?_
  refine lv_icmp_ge (x := Z 21) (y := 6) (tgt := 134) hx hb dX7_sendOn_113 (by decide) (fun (c1 : 6 ≤ Z 21) => ?_) (fun (c1 : ¬ (6 ≤ Z 21)) => ?_)
  · skip
    refine lv_iconst (v := 0) hx hb dX7_sendOn_134 (by decide) ?_
    refine k_iast kx hK hP25 hD26 hS24 1 rfl 51 rfl (by decide) (by decide) dX7_sendOn_135 (fun H27 locs27 hP27 hD27 hS27 => ?_)
    have hP28 : va_P G.1 vwCl ([(h0, .inr (7, cM Z q1 q2 q3 q4 q5 q6 q7 q8 q9 q10 q11 sd)), (h1, .inl (G.2.1, 55, .inl (upd (upd (upd (upd (upd (upd (upd (upd (upd f 43 1) 44 (f 21)) 45 (f 16)) 46 (f 17)) 47 (f 18)) 48 (f 23)) 49 (f 22)) 50 (f 26)) 51 0)))]) H27 := hP27
    have hD29 : va_D A ([(h0, .inr (7, cM Z q1 q2 q3 q4 q5 q6 q7 q8 q9 q10 q11 sd)), (h1, .inl (G.2.1, 55, .inl (upd (upd (upd (upd (upd (upd (upd (upd (upd f 43 1) 44 (f 21)) 45 (f 16)) 46 (f 17)) 47 (f 18)) 48 (f 23)) 49 (f 22)) 50 (f 26)) 51 0)))]) := hD27
    refine lv_aload_n hx hb dX7_sendOn_136 rfl (lv_at hl2 2 rfl) ?_
    refine lv_aload_n hx hb dX7_sendOn_137 rfl (lv_at hl2 2 rfl) ?_
    refine va_get (ci := 7) (v := .int (Z 21)) (C := RX7) (T := TX7) (N := 22) hx hb ht inX7 hown hK.1 hP28 0 rfl rfl 21 (by decide) (ht _ q_687) (fun _ h9 => h9) rfl dX7_sendOn_138 ?_
    refine lv_bipush (v := 6) hx hb dX7_sendOn_141 (by decide) ?_
    refine lv_icmp_ge (x := Z 21) (y := 6) (tgt := 155) hx hb dX7_sendOn_143 (by decide) (fun (c2 : 6 ≤ Z 21) => ?_) (fun (c2 : ¬ (6 ≤ Z 21)) => absurd c1 c2)
    refine lv_bipush (v := 6) hx hb dX7_sendOn_155 (by decide) ?_
    refine va_put (ci := 7) (v := .int 6) (ty := .int) (C := RX7) (T := TX7) (N := 22) hx hb ht inX7 tyX7 tyX7_ok nmX7 hown hK.1 hP28 hD29 hS27 0 rfl rfl 21 (by decide) (ht _ q_687) (fun _ h9 => h9) rfl (by decide +kernel) rfl rfl (Nat.le_of_ble_eq_true rfl) dX7_sendOn_157 (fun H30 locs30 hP30 hD30 hS30 => ?_)
    have hP31 : va_P G.1 vwCl ([(h0, .inr (7, cM (upd Z 21 6) q1 q2 q3 q4 q5 q6 q7 q8 q9 q10 q11 sd)), (h1, .inl (G.2.1, 55, .inl (upd (upd (upd (upd (upd (upd (upd (upd (upd f 43 1) 44 (f 21)) 45 (f 16)) 46 (f 17)) 47 (f 18)) 48 (f 23)) 49 (f 22)) 50 (f 26)) 51 0)))]) H30 := hP30
    have hD32 : va_D A ([(h0, .inr (7, cM (upd Z 21 6) q1 q2 q3 q4 q5 q6 q7 q8 q9 q10 q11 sd)), (h1, .inl (G.2.1, 55, .inl (upd (upd (upd (upd (upd (upd (upd (upd (upd f 43 1) 44 (f 21)) 45 (f 16)) 46 (f 17)) 47 (f 18)) 48 (f 23)) 49 (f 22)) 50 (f 26)) 51 0)))]) := hD30
    refine lv_aload_n hx hb dX7_sendOn_160 rfl (lv_at hl2 3 rfl) ?_
    refine lv_iload_n hx hb dX7_sendOn_161 rfl (lv_at hl2 1 rfl) ?_
    refine lv_bipush (v := 10) hx hb dX7_sendOn_162 (by decide) ?_
    refine lv_iadd hx hb dX7_sendOn_164 ?_
    refine k_top (y := 26) (by decide +kernel) ?_
    refine lv_iconst (v := 0) hx hb dX7_sendOn_165 (by decide) ?_
    refine k_iast kx hK hP31 hD32 hS30 1 rfl 26 rfl (by decide) (by decide) dX7_sendOn_166 (fun H33 locs33 hP33 hD33 hS33 => ?_)
    have hP34 : va_P G.1 vwCl ([(h0, .inr (7, cM (upd Z 21 6) q1 q2 q3 q4 q5 q6 q7 q8 q9 q10 q11 sd)), (h1, .inl (G.2.1, 55, .inl (upd (upd (upd (upd (upd (upd (upd (upd (upd (upd f 43 1) 44 (f 21)) 45 (f 16)) 46 (f 17)) 47 (f 18)) 48 (f 23)) 49 (f 22)) 50 (f 26)) 51 0) 26 0)))]) H33 := hP33
    have hD35 : va_D A ([(h0, .inr (7, cM (upd Z 21 6) q1 q2 q3 q4 q5 q6 q7 q8 q9 q10 q11 sd)), (h1, .inl (G.2.1, 55, .inl (upd (upd (upd (upd (upd (upd (upd (upd (upd (upd f 43 1) 44 (f 21)) 45 (f 16)) 46 (f 17)) 47 (f 18)) 48 (f 23)) 49 (f 22)) 50 (f 26)) 51 0) 26 0)))]) := hD33
    refine lv_aload_n hx hb dX7_sendOn_167 rfl (lv_at hl2 3 rfl) ?_
    refine lv_iload_n hx hb dX7_sendOn_168 rfl (lv_at hl2 1 rfl) ?_
    refine lv_bipush (v := 9) hx hb dX7_sendOn_169 (by decide) ?_
    refine lv_iadd hx hb dX7_sendOn_171 ?_
    refine k_top (y := 25) (by decide +kernel) ?_
    refine lv_aload_n hx hb dX7_sendOn_172 rfl (lv_at hl2 3 rfl) ?_
    refine lv_iload_n hx hb dX7_sendOn_173 rfl (lv_at hl2 1 rfl) ?_
    refine k_calli (kRunS (As := [.ref h1, .int 16]) (rest := [.int 25, .ref h1]) kx (c_X7_paceOn_16 l G (upd (upd (upd (upd (upd (upd (upd (upd (upd (upd f 43 1) 44 (f 21)) 45 (f 16)) 46 (f 17)) 47 (f 18)) 48 (f 23)) 49 (f 22)) 50 (f 26)) 51 0) 26 0) h1) q_817 q_815 q_36 q_816 nX7_paceOn ⟨Nat.le_of_ble_eq_true rfl, Nat.le_of_ble_eq_true rfl⟩ hK hP34 hD35 (kCtx_places _ _ [1] rfl rfl) rfl hl2.1 (Nat.le_of_ble_eq_true rfl) dX7_sendOn_174 ⟨Nat.zero_le _, Nat.zero_le _⟩) hP34 hD35 hS33 hA (kCtx_places _ _ [1] rfl rfl) (fun _ => rfl) (fun r3 _ H36 locs36 hw hP36 hD36 hS36 => ?_)
    have hr3 : r_X7_paceOn_16 (upd (upd (upd (upd (upd (upd (upd (upd (upd (upd f 43 1) 44 (f 21)) 45 (f 16)) 46 (f 17)) 47 (f 18)) 48 (f 23)) 49 (f 22)) 50 (f 26)) 51 0) 26 0) = r3 := (show r3 = r_X7_paceOn_16 (upd (upd (upd (upd (upd (upd (upd (upd (upd (upd f 43 1) 44 (f 21)) 45 (f 16)) 46 (f 17)) 47 (f 18)) 48 (f 23)) 49 (f 22)) 50 (f 26)) 51 0) 26 0) from hw).symm
    have hP37 : va_P G.1 vwCl ([(h0, .inr (7, cM (upd Z 21 6) q1 q2 q3 q4 q5 q6 q7 q8 q9 q10 q11 sd)), (h1, .inl (G.2.1, 55, .inl (upd (upd (upd (upd (upd (upd (upd (upd (upd (upd f 43 1) 44 (f 21)) 45 (f 16)) 46 (f 17)) 47 (f 18)) 48 (f 23)) 49 (f 22)) 50 (f 26)) 51 0) 26 0)))]) H36 := hP36
    have hD38 : va_D A ([(h0, .inr (7, cM (upd Z 21 6) q1 q2 q3 q4 q5 q6 q7 q8 q9 q10 q11 sd)), (h1, .inl (G.2.1, 55, .inl (upd (upd (upd (upd (upd (upd (upd (upd (upd (upd f 43 1) 44 (f 21)) 45 (f 16)) 46 (f 17)) 47 (f 18)) 48 (f 23)) 49 (f 22)) 50 (f 26)) 51 0) 26 0)))]) := hD36
    refine k_iast kx hK hP37 hD38 hS36 1 rfl 25 rfl (by decide) (by decide) dX7_sendOn_177 (fun H39 locs39 hP39 hD39 hS39 => ?_)
    have hP40 : va_P G.1 vwCl ([(h0, .inr (7, cM (upd Z 21 6) q1 q2 q3 q4 q5 q6 q7 q8 q9 q10 q11 sd)), (h1, .inl (G.2.1, 55, .inl (upd (upd (upd (upd (upd (upd (upd (upd (upd (upd (upd f 43 1) 44 (f 21)) 45 (f 16)) 46 (f 17)) 47 (f 18)) 48 (f 23)) 49 (f 22)) 50 (f 26)) 51 0) 26 0) 25 r3)))]) H39 := hP39
    have hD41 : va_D A ([(h0, .inr (7, cM (upd Z 21 6) q1 q2 q3 q4 q5 q6 q7 q8 q9 q10 q11 sd)), (h1, .inl (G.2.1, 55, .inl (upd (upd (upd (upd (upd (upd (upd (upd (upd (upd (upd f 43 1) 44 (f 21)) 45 (f 16)) 46 (f 17)) 47 (f 18)) 48 (f 23)) 49 (f 22)) 50 (f 26)) 51 0) 26 0) 25 r3)))]) := hD39
    refine lv_aload_n hx hb dX7_sendOn_178 rfl (lv_at hl2 3 rfl) ?_
    refine lv_bipush (v := 53) hx hb dX7_sendOn_179 (by decide) ?_
    refine lv_dup2_11 hx hb dX7_sendOn_181 rfl rfl ?_
    refine k_iald (v := (f 53)) kx hK hP40 1 rfl 53 rfl (by decide) (by decide) rfl dX7_sendOn_182 ?_
    refine lv_iconst (v := 1) hx hb dX7_sendOn_183 (by decide) ?_
    refine lv_iadd hx hb dX7_sendOn_184 ?_
    refine k_iast kx hK hP40 hD41 hS39 1 rfl 53 rfl (by decide) (by decide) dX7_sendOn_185 (fun H42 locs42 hP42 hD42 hS42 => ?_)
    have hP43 : va_P G.1 vwCl ([(h0, .inr (7, cM (upd Z 21 6) q1 q2 q3 q4 q5 q6 q7 q8 q9 q10 q11 sd)), (h1, .inl (G.2.1, 55, .inl (upd (upd (upd (upd (upd (upd (upd (upd (upd (upd (upd (upd f 43 1) 44 (f 21)) 45 (f 16)) 46 (f 17)) 47 (f 18)) 48 (f 23)) 49 (f 22)) 50 (f 26)) 51 0) 26 0) 25 r3) 53 ((f 53) + 1))))]) H42 := hP42
    have hD44 : va_D A ([(h0, .inr (7, cM (upd Z 21 6) q1 q2 q3 q4 q5 q6 q7 q8 q9 q10 q11 sd)), (h1, .inl (G.2.1, 55, .inl (upd (upd (upd (upd (upd (upd (upd (upd (upd (upd (upd (upd f 43 1) 44 (f 21)) 45 (f 16)) 46 (f 17)) 47 (f 18)) 48 (f 23)) 49 (f 22)) 50 (f 26)) 51 0) 26 0) 25 r3) 53 ((f 53) + 1))))]) := hD42
    have e0 : s_X7_sendOn_1_Z Z = upd Z 21 6 := by rw [s_X7_sendOn_1_Z]; (try rw [hr3]); rw [if_pos c1]
    have e1 : s_X7_sendOn_1_f Z f = upd (upd (upd (upd (upd (upd (upd (upd (upd (upd (upd (upd f 43 1) 44 (f 21)) 45 (f 16)) 46 (f 17)) 47 (f 18)) 48 (f 23)) 49 (f 22)) 50 (f 26)) 51 0) 26 0) 25 r3) 53 ((f 53) + 1) := by rw [s_X7_sendOn_1_f]; (try rw [hr3]); rw [if_pos c1]
    exact k_vret kx hK hP43 hD44 hS42 (u := (upd Z 21 6, upd (upd (upd (upd (upd (upd (upd (upd (upd (upd (upd (upd f 43 1) 44 (f 21)) 45 (f 16)) 46 (f 17)) 47 (f 18)) 48 (f 23)) 49 (f 22)) 50 (f 26)) 51 0) 26 0) 25 r3) 53 ((f 53) + 1))) rfl ⟨e0.symm, e1.symm⟩ dX7_sendOn_186
  · skip
    refine lv_aload_n hx hb dX7_sendOn_116 rfl (lv_at hl2 2 rfl) ?_
    refine va_get (ci := 7) (v := .int (Z 20)) (C := RX7) (T := TX7) (N := 22) hx hb ht inX7 hown hK.1 hP25 0 rfl rfl 20 (by decide) (ht _ q_686) (fun _ h9 => h9) rfl dX7_sendOn_117 ?_
    refine lv_aload_n hx hb dX7_sendOn_120 rfl (lv_at hl2 2 rfl) ?_
    refine va_get (ci := 7) (v := .int (Z 21)) (C := RX7) (T := TX7) (N := 22) hx hb ht inX7 hown hK.1 hP25 0 rfl rfl 21 (by decide) (ht _ q_687) (fun _ h9 => h9) rfl dX7_sendOn_121 ?_
    refine k_calli (kRunS (As := [.int (Z 20), .int (Z 21)]) (rest := [.int 51, .ref h1]) kx (c_X7_has l G (Z 20) (Z 21)) q_814 q_812 q_36 q_813 nX7_has ⟨Nat.le_of_ble_eq_true rfl, Nat.le_of_ble_eq_true rfl⟩ hK hP25 hD26 (kCtx_nil _) rfl hl2.1 (Nat.le_of_ble_eq_true rfl) dX7_sendOn_124 ⟨Nat.zero_le _, Nat.zero_le _⟩) hP25 hD26 hS24 hA (kCtx_nil _) (fun _ => rfl) (fun r4 _ H45 locs45 hw hP45 hD45 hS45 => ?_)
    have hr4 : r_X7_has (Z 20) (Z 21) = r4 := (show r4 = r_X7_has (Z 20) (Z 21) from hw).symm
    have hP46 : va_P G.1 vwCl ([(h0, .inr (7, cM Z q1 q2 q3 q4 q5 q6 q7 q8 q9 q10 q11 sd)), (h1, .inl (G.2.1, 55, .inl (upd (upd (upd (upd (upd (upd (upd (upd f 43 1) 44 (f 21)) 45 (f 16)) 46 (f 17)) 47 (f 18)) 48 (f 23)) 49 (f 22)) 50 (f 26))))]) H45 := hP45
    have hD47 : va_D A ([(h0, .inr (7, cM Z q1 q2 q3 q4 q5 q6 q7 q8 q9 q10 q11 sd)), (h1, .inl (G.2.1, 55, .inl (upd (upd (upd (upd (upd (upd (upd (upd f 43 1) 44 (f 21)) 45 (f 16)) 46 (f 17)) 47 (f 18)) 48 (f 23)) 49 (f 22)) 50 (f 26))))]) := hD45
    refine lv_if_eq (x := r4) (tgt := 134) hx hb dX7_sendOn_127 (by decide) (fun (c5 : r4 = 0) => ?_) (fun (c5 : ¬ (r4 = 0)) => ?_)
    · skip
      refine lv_iconst (v := 0) hx hb dX7_sendOn_134 (by decide) ?_
      refine k_iast kx hK hP46 hD47 hS45 1 rfl 51 rfl (by decide) (by decide) dX7_sendOn_135 (fun H48 locs48 hP48 hD48 hS48 => ?_)
      have hP49 : va_P G.1 vwCl ([(h0, .inr (7, cM Z q1 q2 q3 q4 q5 q6 q7 q8 q9 q10 q11 sd)), (h1, .inl (G.2.1, 55, .inl (upd (upd (upd (upd (upd (upd (upd (upd (upd f 43 1) 44 (f 21)) 45 (f 16)) 46 (f 17)) 47 (f 18)) 48 (f 23)) 49 (f 22)) 50 (f 26)) 51 0)))]) H48 := hP48
      have hD50 : va_D A ([(h0, .inr (7, cM Z q1 q2 q3 q4 q5 q6 q7 q8 q9 q10 q11 sd)), (h1, .inl (G.2.1, 55, .inl (upd (upd (upd (upd (upd (upd (upd (upd (upd f 43 1) 44 (f 21)) 45 (f 16)) 46 (f 17)) 47 (f 18)) 48 (f 23)) 49 (f 22)) 50 (f 26)) 51 0)))]) := hD48
      refine lv_aload_n hx hb dX7_sendOn_136 rfl (lv_at hl2 2 rfl) ?_
      refine lv_aload_n hx hb dX7_sendOn_137 rfl (lv_at hl2 2 rfl) ?_
      refine va_get (ci := 7) (v := .int (Z 21)) (C := RX7) (T := TX7) (N := 22) hx hb ht inX7 hown hK.1 hP49 0 rfl rfl 21 (by decide) (ht _ q_687) (fun _ h9 => h9) rfl dX7_sendOn_138 ?_
      refine lv_bipush (v := 6) hx hb dX7_sendOn_141 (by decide) ?_
      refine lv_icmp_ge (x := Z 21) (y := 6) (tgt := 155) hx hb dX7_sendOn_143 (by decide) (fun (c6 : 6 ≤ Z 21) => absurd c6 c1) (fun (c6 : ¬ (6 ≤ Z 21)) => ?_)
      refine lv_aload_n hx hb dX7_sendOn_146 rfl (lv_at hl2 2 rfl) ?_
      refine va_get (ci := 7) (v := .int (Z 21)) (C := RX7) (T := TX7) (N := 22) hx hb ht inX7 hown hK.1 hP49 0 rfl rfl 21 (by decide) (ht _ q_687) (fun _ h9 => h9) rfl dX7_sendOn_147 ?_
      refine lv_iconst (v := 1) hx hb dX7_sendOn_150 (by decide) ?_
      refine lv_iadd hx hb dX7_sendOn_151 ?_
      refine lv_goto (tgt := 157) hx hb dX7_sendOn_152 (by decide) ?_
      refine va_put (ci := 7) (v := .int ((Z 21) + 1)) (ty := .int) (C := RX7) (T := TX7) (N := 22) hx hb ht inX7 tyX7 tyX7_ok nmX7 hown hK.1 hP49 hD50 hS48 0 rfl rfl 21 (by decide) (ht _ q_687) (fun _ h9 => h9) rfl (by decide +kernel) rfl rfl (Nat.le_of_ble_eq_true rfl) dX7_sendOn_157 (fun H51 locs51 hP51 hD51 hS51 => ?_)
      have hP52 : va_P G.1 vwCl ([(h0, .inr (7, cM (upd Z 21 ((Z 21) + 1)) q1 q2 q3 q4 q5 q6 q7 q8 q9 q10 q11 sd)), (h1, .inl (G.2.1, 55, .inl (upd (upd (upd (upd (upd (upd (upd (upd (upd f 43 1) 44 (f 21)) 45 (f 16)) 46 (f 17)) 47 (f 18)) 48 (f 23)) 49 (f 22)) 50 (f 26)) 51 0)))]) H51 := hP51
      have hD53 : va_D A ([(h0, .inr (7, cM (upd Z 21 ((Z 21) + 1)) q1 q2 q3 q4 q5 q6 q7 q8 q9 q10 q11 sd)), (h1, .inl (G.2.1, 55, .inl (upd (upd (upd (upd (upd (upd (upd (upd (upd f 43 1) 44 (f 21)) 45 (f 16)) 46 (f 17)) 47 (f 18)) 48 (f 23)) 49 (f 22)) 50 (f 26)) 51 0)))]) := hD51
      refine lv_aload_n hx hb dX7_sendOn_160 rfl (lv_at hl2 3 rfl) ?_
      refine lv_iload_n hx hb dX7_sendOn_161 rfl (lv_at hl2 1 rfl) ?_
      refine lv_bipush (v := 10) hx hb dX7_sendOn_162 (by decide) ?_
      refine lv_iadd hx hb dX7_sendOn_164 ?_
      refine k_top (y := 26) (by decide +kernel) ?_
      refine lv_iconst (v := 0) hx hb dX7_sendOn_165 (by decide) ?_
      refine k_iast kx hK hP52 hD53 hS51 1 rfl 26 rfl (by decide) (by decide) dX7_sendOn_166 (fun H54 locs54 hP54 hD54 hS54 => ?_)
      have hP55 : va_P G.1 vwCl ([(h0, .inr (7, cM (upd Z 21 ((Z 21) + 1)) q1 q2 q3 q4 q5 q6 q7 q8 q9 q10 q11 sd)), (h1, .inl (G.2.1, 55, .inl (upd (upd (upd (upd (upd (upd (upd (upd (upd (upd f 43 1) 44 (f 21)) 45 (f 16)) 46 (f 17)) 47 (f 18)) 48 (f 23)) 49 (f 22)) 50 (f 26)) 51 0) 26 0)))]) H54 := hP54
      have hD56 : va_D A ([(h0, .inr (7, cM (upd Z 21 ((Z 21) + 1)) q1 q2 q3 q4 q5 q6 q7 q8 q9 q10 q11 sd)), (h1, .inl (G.2.1, 55, .inl (upd (upd (upd (upd (upd (upd (upd (upd (upd (upd f 43 1) 44 (f 21)) 45 (f 16)) 46 (f 17)) 47 (f 18)) 48 (f 23)) 49 (f 22)) 50 (f 26)) 51 0) 26 0)))]) := hD54
      refine lv_aload_n hx hb dX7_sendOn_167 rfl (lv_at hl2 3 rfl) ?_
      refine lv_iload_n hx hb dX7_sendOn_168 rfl (lv_at hl2 1 rfl) ?_
      refine lv_bipush (v := 9) hx hb dX7_sendOn_169 (by decide) ?_
      refine lv_iadd hx hb dX7_sendOn_171 ?_
      refine k_top (y := 25) (by decide +kernel) ?_
      refine lv_aload_n hx hb dX7_sendOn_172 rfl (lv_at hl2 3 rfl) ?_
      refine lv_iload_n hx hb dX7_sendOn_173 rfl (lv_at hl2 1 rfl) ?_
      refine k_calli (kRunS (As := [.ref h1, .int 16]) (rest := [.int 25, .ref h1]) kx (c_X7_paceOn_16 l G (upd (upd (upd (upd (upd (upd (upd (upd (upd (upd f 43 1) 44 (f 21)) 45 (f 16)) 46 (f 17)) 47 (f 18)) 48 (f 23)) 49 (f 22)) 50 (f 26)) 51 0) 26 0) h1) q_817 q_815 q_36 q_816 nX7_paceOn ⟨Nat.le_of_ble_eq_true rfl, Nat.le_of_ble_eq_true rfl⟩ hK hP55 hD56 (kCtx_places _ _ [1] rfl rfl) rfl hl2.1 (Nat.le_of_ble_eq_true rfl) dX7_sendOn_174 ⟨Nat.zero_le _, Nat.zero_le _⟩) hP55 hD56 hS54 hA (kCtx_places _ _ [1] rfl rfl) (fun _ => rfl) (fun r7 _ H57 locs57 hw hP57 hD57 hS57 => ?_)
      have hr7 : r_X7_paceOn_16 (upd (upd (upd (upd (upd (upd (upd (upd (upd (upd f 43 1) 44 (f 21)) 45 (f 16)) 46 (f 17)) 47 (f 18)) 48 (f 23)) 49 (f 22)) 50 (f 26)) 51 0) 26 0) = r7 := (show r7 = r_X7_paceOn_16 (upd (upd (upd (upd (upd (upd (upd (upd (upd (upd f 43 1) 44 (f 21)) 45 (f 16)) 46 (f 17)) 47 (f 18)) 48 (f 23)) 49 (f 22)) 50 (f 26)) 51 0) 26 0) from hw).symm
      have hP58 : va_P G.1 vwCl ([(h0, .inr (7, cM (upd Z 21 ((Z 21) + 1)) q1 q2 q3 q4 q5 q6 q7 q8 q9 q10 q11 sd)), (h1, .inl (G.2.1, 55, .inl (upd (upd (upd (upd (upd (upd (upd (upd (upd (upd f 43 1) 44 (f 21)) 45 (f 16)) 46 (f 17)) 47 (f 18)) 48 (f 23)) 49 (f 22)) 50 (f 26)) 51 0) 26 0)))]) H57 := hP57
      have hD59 : va_D A ([(h0, .inr (7, cM (upd Z 21 ((Z 21) + 1)) q1 q2 q3 q4 q5 q6 q7 q8 q9 q10 q11 sd)), (h1, .inl (G.2.1, 55, .inl (upd (upd (upd (upd (upd (upd (upd (upd (upd (upd f 43 1) 44 (f 21)) 45 (f 16)) 46 (f 17)) 47 (f 18)) 48 (f 23)) 49 (f 22)) 50 (f 26)) 51 0) 26 0)))]) := hD57
      refine k_iast kx hK hP58 hD59 hS57 1 rfl 25 rfl (by decide) (by decide) dX7_sendOn_177 (fun H60 locs60 hP60 hD60 hS60 => ?_)
      have hP61 : va_P G.1 vwCl ([(h0, .inr (7, cM (upd Z 21 ((Z 21) + 1)) q1 q2 q3 q4 q5 q6 q7 q8 q9 q10 q11 sd)), (h1, .inl (G.2.1, 55, .inl (upd (upd (upd (upd (upd (upd (upd (upd (upd (upd (upd f 43 1) 44 (f 21)) 45 (f 16)) 46 (f 17)) 47 (f 18)) 48 (f 23)) 49 (f 22)) 50 (f 26)) 51 0) 26 0) 25 r7)))]) H60 := hP60
      have hD62 : va_D A ([(h0, .inr (7, cM (upd Z 21 ((Z 21) + 1)) q1 q2 q3 q4 q5 q6 q7 q8 q9 q10 q11 sd)), (h1, .inl (G.2.1, 55, .inl (upd (upd (upd (upd (upd (upd (upd (upd (upd (upd (upd f 43 1) 44 (f 21)) 45 (f 16)) 46 (f 17)) 47 (f 18)) 48 (f 23)) 49 (f 22)) 50 (f 26)) 51 0) 26 0) 25 r7)))]) := hD60
      refine lv_aload_n hx hb dX7_sendOn_178 rfl (lv_at hl2 3 rfl) ?_
      refine lv_bipush (v := 53) hx hb dX7_sendOn_179 (by decide) ?_
      refine lv_dup2_11 hx hb dX7_sendOn_181 rfl rfl ?_
      refine k_iald (v := (f 53)) kx hK hP61 1 rfl 53 rfl (by decide) (by decide) rfl dX7_sendOn_182 ?_
      refine lv_iconst (v := 1) hx hb dX7_sendOn_183 (by decide) ?_
      refine lv_iadd hx hb dX7_sendOn_184 ?_
      refine k_iast kx hK hP61 hD62 hS60 1 rfl 53 rfl (by decide) (by decide) dX7_sendOn_185 (fun H63 locs63 hP63 hD63 hS63 => ?_)
      have hP64 : va_P G.1 vwCl ([(h0, .inr (7, cM (upd Z 21 ((Z 21) + 1)) q1 q2 q3 q4 q5 q6 q7 q8 q9 q10 q11 sd)), (h1, .inl (G.2.1, 55, .inl (upd (upd (upd (upd (upd (upd (upd (upd (upd (upd (upd (upd f 43 1) 44 (f 21)) 45 (f 16)) 46 (f 17)) 47 (f 18)) 48 (f 23)) 49 (f 22)) 50 (f 26)) 51 0) 26 0) 25 r7) 53 ((f 53) + 1))))]) H63 := hP63
      have hD65 : va_D A ([(h0, .inr (7, cM (upd Z 21 ((Z 21) + 1)) q1 q2 q3 q4 q5 q6 q7 q8 q9 q10 q11 sd)), (h1, .inl (G.2.1, 55, .inl (upd (upd (upd (upd (upd (upd (upd (upd (upd (upd (upd (upd f 43 1) 44 (f 21)) 45 (f 16)) 46 (f 17)) 47 (f 18)) 48 (f 23)) 49 (f 22)) 50 (f 26)) 51 0) 26 0) 25 r7) 53 ((f 53) + 1))))]) := hD63
      have e0 : s_X7_sendOn_1_Z Z = upd Z 21 ((Z 21) + 1) := by rw [s_X7_sendOn_1_Z]; (try rw [hr4]); (try rw [hr7]); rw [if_neg c1, if_pos c5]
      have e1 : s_X7_sendOn_1_f Z f = upd (upd (upd (upd (upd (upd (upd (upd (upd (upd (upd (upd f 43 1) 44 (f 21)) 45 (f 16)) 46 (f 17)) 47 (f 18)) 48 (f 23)) 49 (f 22)) 50 (f 26)) 51 0) 26 0) 25 r7) 53 ((f 53) + 1) := by rw [s_X7_sendOn_1_f]; (try rw [hr4]); (try rw [hr7]); rw [if_neg c1, if_pos c5]
      exact k_vret kx hK hP64 hD65 hS63 (u := (upd Z 21 ((Z 21) + 1), upd (upd (upd (upd (upd (upd (upd (upd (upd (upd (upd (upd f 43 1) 44 (f 21)) 45 (f 16)) 46 (f 17)) 47 (f 18)) 48 (f 23)) 49 (f 22)) 50 (f 26)) 51 0) 26 0) 25 r7) 53 ((f 53) + 1))) rfl ⟨e0.symm, e1.symm⟩ dX7_sendOn_186
    · skip
      refine lv_iconst (v := 1) hx hb dX7_sendOn_130 (by decide) ?_
      refine lv_goto (tgt := 135) hx hb dX7_sendOn_131 (by decide) ?_
      refine k_iast kx hK hP46 hD47 hS45 1 rfl 51 rfl (by decide) (by decide) dX7_sendOn_135 (fun H66 locs66 hP66 hD66 hS66 => ?_)
      have hP67 : va_P G.1 vwCl ([(h0, .inr (7, cM Z q1 q2 q3 q4 q5 q6 q7 q8 q9 q10 q11 sd)), (h1, .inl (G.2.1, 55, .inl (upd (upd (upd (upd (upd (upd (upd (upd (upd f 43 1) 44 (f 21)) 45 (f 16)) 46 (f 17)) 47 (f 18)) 48 (f 23)) 49 (f 22)) 50 (f 26)) 51 1)))]) H66 := hP66
      have hD68 : va_D A ([(h0, .inr (7, cM Z q1 q2 q3 q4 q5 q6 q7 q8 q9 q10 q11 sd)), (h1, .inl (G.2.1, 55, .inl (upd (upd (upd (upd (upd (upd (upd (upd (upd f 43 1) 44 (f 21)) 45 (f 16)) 46 (f 17)) 47 (f 18)) 48 (f 23)) 49 (f 22)) 50 (f 26)) 51 1)))]) := hD66
      refine lv_aload_n hx hb dX7_sendOn_136 rfl (lv_at hl2 2 rfl) ?_
      refine lv_aload_n hx hb dX7_sendOn_137 rfl (lv_at hl2 2 rfl) ?_
      refine va_get (ci := 7) (v := .int (Z 21)) (C := RX7) (T := TX7) (N := 22) hx hb ht inX7 hown hK.1 hP67 0 rfl rfl 21 (by decide) (ht _ q_687) (fun _ h9 => h9) rfl dX7_sendOn_138 ?_
      refine lv_bipush (v := 6) hx hb dX7_sendOn_141 (by decide) ?_
      refine lv_icmp_ge (x := Z 21) (y := 6) (tgt := 155) hx hb dX7_sendOn_143 (by decide) (fun (c8 : 6 ≤ Z 21) => absurd c8 c1) (fun (c8 : ¬ (6 ≤ Z 21)) => ?_)
      refine lv_aload_n hx hb dX7_sendOn_146 rfl (lv_at hl2 2 rfl) ?_
      refine va_get (ci := 7) (v := .int (Z 21)) (C := RX7) (T := TX7) (N := 22) hx hb ht inX7 hown hK.1 hP67 0 rfl rfl 21 (by decide) (ht _ q_687) (fun _ h9 => h9) rfl dX7_sendOn_147 ?_
      refine lv_iconst (v := 1) hx hb dX7_sendOn_150 (by decide) ?_
      refine lv_iadd hx hb dX7_sendOn_151 ?_
      refine lv_goto (tgt := 157) hx hb dX7_sendOn_152 (by decide) ?_
      refine va_put (ci := 7) (v := .int ((Z 21) + 1)) (ty := .int) (C := RX7) (T := TX7) (N := 22) hx hb ht inX7 tyX7 tyX7_ok nmX7 hown hK.1 hP67 hD68 hS66 0 rfl rfl 21 (by decide) (ht _ q_687) (fun _ h9 => h9) rfl (by decide +kernel) rfl rfl (Nat.le_of_ble_eq_true rfl) dX7_sendOn_157 (fun H69 locs69 hP69 hD69 hS69 => ?_)
      have hP70 : va_P G.1 vwCl ([(h0, .inr (7, cM (upd Z 21 ((Z 21) + 1)) q1 q2 q3 q4 q5 q6 q7 q8 q9 q10 q11 sd)), (h1, .inl (G.2.1, 55, .inl (upd (upd (upd (upd (upd (upd (upd (upd (upd f 43 1) 44 (f 21)) 45 (f 16)) 46 (f 17)) 47 (f 18)) 48 (f 23)) 49 (f 22)) 50 (f 26)) 51 1)))]) H69 := hP69
      have hD71 : va_D A ([(h0, .inr (7, cM (upd Z 21 ((Z 21) + 1)) q1 q2 q3 q4 q5 q6 q7 q8 q9 q10 q11 sd)), (h1, .inl (G.2.1, 55, .inl (upd (upd (upd (upd (upd (upd (upd (upd (upd f 43 1) 44 (f 21)) 45 (f 16)) 46 (f 17)) 47 (f 18)) 48 (f 23)) 49 (f 22)) 50 (f 26)) 51 1)))]) := hD69
      refine lv_aload_n hx hb dX7_sendOn_160 rfl (lv_at hl2 3 rfl) ?_
      refine lv_iload_n hx hb dX7_sendOn_161 rfl (lv_at hl2 1 rfl) ?_
      refine lv_bipush (v := 10) hx hb dX7_sendOn_162 (by decide) ?_
      refine lv_iadd hx hb dX7_sendOn_164 ?_
      refine k_top (y := 26) (by decide +kernel) ?_
      refine lv_iconst (v := 0) hx hb dX7_sendOn_165 (by decide) ?_
      refine k_iast kx hK hP70 hD71 hS69 1 rfl 26 rfl (by decide) (by decide) dX7_sendOn_166 (fun H72 locs72 hP72 hD72 hS72 => ?_)
      have hP73 : va_P G.1 vwCl ([(h0, .inr (7, cM (upd Z 21 ((Z 21) + 1)) q1 q2 q3 q4 q5 q6 q7 q8 q9 q10 q11 sd)), (h1, .inl (G.2.1, 55, .inl (upd (upd (upd (upd (upd (upd (upd (upd (upd (upd f 43 1) 44 (f 21)) 45 (f 16)) 46 (f 17)) 47 (f 18)) 48 (f 23)) 49 (f 22)) 50 (f 26)) 51 1) 26 0)))]) H72 := hP72
      have hD74 : va_D A ([(h0, .inr (7, cM (upd Z 21 ((Z 21) + 1)) q1 q2 q3 q4 q5 q6 q7 q8 q9 q10 q11 sd)), (h1, .inl (G.2.1, 55, .inl (upd (upd (upd (upd (upd (upd (upd (upd (upd (upd f 43 1) 44 (f 21)) 45 (f 16)) 46 (f 17)) 47 (f 18)) 48 (f 23)) 49 (f 22)) 50 (f 26)) 51 1) 26 0)))]) := hD72
      refine lv_aload_n hx hb dX7_sendOn_167 rfl (lv_at hl2 3 rfl) ?_
      refine lv_iload_n hx hb dX7_sendOn_168 rfl (lv_at hl2 1 rfl) ?_
      refine lv_bipush (v := 9) hx hb dX7_sendOn_169 (by decide) ?_
      refine lv_iadd hx hb dX7_sendOn_171 ?_
      refine k_top (y := 25) (by decide +kernel) ?_
      refine lv_aload_n hx hb dX7_sendOn_172 rfl (lv_at hl2 3 rfl) ?_
      refine lv_iload_n hx hb dX7_sendOn_173 rfl (lv_at hl2 1 rfl) ?_
      refine k_calli (kRunS (As := [.ref h1, .int 16]) (rest := [.int 25, .ref h1]) kx (c_X7_paceOn_16 l G (upd (upd (upd (upd (upd (upd (upd (upd (upd (upd f 43 1) 44 (f 21)) 45 (f 16)) 46 (f 17)) 47 (f 18)) 48 (f 23)) 49 (f 22)) 50 (f 26)) 51 1) 26 0) h1) q_817 q_815 q_36 q_816 nX7_paceOn ⟨Nat.le_of_ble_eq_true rfl, Nat.le_of_ble_eq_true rfl⟩ hK hP73 hD74 (kCtx_places _ _ [1] rfl rfl) rfl hl2.1 (Nat.le_of_ble_eq_true rfl) dX7_sendOn_174 ⟨Nat.zero_le _, Nat.zero_le _⟩) hP73 hD74 hS72 hA (kCtx_places _ _ [1] rfl rfl) (fun _ => rfl) (fun r9 _ H75 locs75 hw hP75 hD75 hS75 => ?_)
      have hr9 : r_X7_paceOn_16 (upd (upd (upd (upd (upd (upd (upd (upd (upd (upd f 43 1) 44 (f 21)) 45 (f 16)) 46 (f 17)) 47 (f 18)) 48 (f 23)) 49 (f 22)) 50 (f 26)) 51 1) 26 0) = r9 := (show r9 = r_X7_paceOn_16 (upd (upd (upd (upd (upd (upd (upd (upd (upd (upd f 43 1) 44 (f 21)) 45 (f 16)) 46 (f 17)) 47 (f 18)) 48 (f 23)) 49 (f 22)) 50 (f 26)) 51 1) 26 0) from hw).symm
      have hP76 : va_P G.1 vwCl ([(h0, .inr (7, cM (upd Z 21 ((Z 21) + 1)) q1 q2 q3 q4 q5 q6 q7 q8 q9 q10 q11 sd)), (h1, .inl (G.2.1, 55, .inl (upd (upd (upd (upd (upd (upd (upd (upd (upd (upd f 43 1) 44 (f 21)) 45 (f 16)) 46 (f 17)) 47 (f 18)) 48 (f 23)) 49 (f 22)) 50 (f 26)) 51 1) 26 0)))]) H75 := hP75
      have hD77 : va_D A ([(h0, .inr (7, cM (upd Z 21 ((Z 21) + 1)) q1 q2 q3 q4 q5 q6 q7 q8 q9 q10 q11 sd)), (h1, .inl (G.2.1, 55, .inl (upd (upd (upd (upd (upd (upd (upd (upd (upd (upd f 43 1) 44 (f 21)) 45 (f 16)) 46 (f 17)) 47 (f 18)) 48 (f 23)) 49 (f 22)) 50 (f 26)) 51 1) 26 0)))]) := hD75
      refine k_iast kx hK hP76 hD77 hS75 1 rfl 25 rfl (by decide) (by decide) dX7_sendOn_177 (fun H78 locs78 hP78 hD78 hS78 => ?_)
      have hP79 : va_P G.1 vwCl ([(h0, .inr (7, cM (upd Z 21 ((Z 21) + 1)) q1 q2 q3 q4 q5 q6 q7 q8 q9 q10 q11 sd)), (h1, .inl (G.2.1, 55, .inl (upd (upd (upd (upd (upd (upd (upd (upd (upd (upd (upd f 43 1) 44 (f 21)) 45 (f 16)) 46 (f 17)) 47 (f 18)) 48 (f 23)) 49 (f 22)) 50 (f 26)) 51 1) 26 0) 25 r9)))]) H78 := hP78
      have hD80 : va_D A ([(h0, .inr (7, cM (upd Z 21 ((Z 21) + 1)) q1 q2 q3 q4 q5 q6 q7 q8 q9 q10 q11 sd)), (h1, .inl (G.2.1, 55, .inl (upd (upd (upd (upd (upd (upd (upd (upd (upd (upd (upd f 43 1) 44 (f 21)) 45 (f 16)) 46 (f 17)) 47 (f 18)) 48 (f 23)) 49 (f 22)) 50 (f 26)) 51 1) 26 0) 25 r9)))]) := hD78
      refine lv_aload_n hx hb dX7_sendOn_178 rfl (lv_at hl2 3 rfl) ?_
      refine lv_bipush (v := 53) hx hb dX7_sendOn_179 (by decide) ?_
      refine lv_dup2_11 hx hb dX7_sendOn_181 rfl rfl ?_
      refine k_iald (v := (f 53)) kx hK hP79 1 rfl 53 rfl (by decide) (by decide) rfl dX7_sendOn_182 ?_
      refine lv_iconst (v := 1) hx hb dX7_sendOn_183 (by decide) ?_
      refine lv_iadd hx hb dX7_sendOn_184 ?_
      refine k_iast kx hK hP79 hD80 hS78 1 rfl 53 rfl (by decide) (by decide) dX7_sendOn_185 (fun H81 locs81 hP81 hD81 hS81 => ?_)
      have hP82 : va_P G.1 vwCl ([(h0, .inr (7, cM (upd Z 21 ((Z 21) + 1)) q1 q2 q3 q4 q5 q6 q7 q8 q9 q10 q11 sd)), (h1, .inl (G.2.1, 55, .inl (upd (upd (upd (upd (upd (upd (upd (upd (upd (upd (upd (upd f 43 1) 44 (f 21)) 45 (f 16)) 46 (f 17)) 47 (f 18)) 48 (f 23)) 49 (f 22)) 50 (f 26)) 51 1) 26 0) 25 r9) 53 ((f 53) + 1))))]) H81 := hP81
      have hD83 : va_D A ([(h0, .inr (7, cM (upd Z 21 ((Z 21) + 1)) q1 q2 q3 q4 q5 q6 q7 q8 q9 q10 q11 sd)), (h1, .inl (G.2.1, 55, .inl (upd (upd (upd (upd (upd (upd (upd (upd (upd (upd (upd (upd f 43 1) 44 (f 21)) 45 (f 16)) 46 (f 17)) 47 (f 18)) 48 (f 23)) 49 (f 22)) 50 (f 26)) 51 1) 26 0) 25 r9) 53 ((f 53) + 1))))]) := hD81
      have e0 : s_X7_sendOn_1_Z Z = upd Z 21 ((Z 21) + 1) := by rw [s_X7_sendOn_1_Z]; (try rw [hr4]); (try rw [hr9]); rw [if_neg c1, if_neg c5]
      have e1 : s_X7_sendOn_1_f Z f = upd (upd (upd (upd (upd (upd (upd (upd (upd (upd (upd (upd f 43 1) 44 (f 21)) 45 (f 16)) 46 (f 17)) 47 (f 18)) 48 (f 23)) 49 (f 22)) 50 (f 26)) 51 1) 26 0) 25 r9) 53 ((f 53) + 1) := by rw [s_X7_sendOn_1_f]; (try rw [hr4]); (try rw [hr9]); rw [if_neg c1, if_neg c5]
      exact k_vret kx hK hP82 hD83 hS81 (u := (upd Z 21 ((Z 21) + 1), upd (upd (upd (upd (upd (upd (upd (upd (upd (upd (upd (upd f 43 1) 44 (f 21)) 45 (f 16)) 46 (f 17)) 47 (f 18)) 48 (f 23)) 49 (f 22)) 50 (f 26)) 51 1) 26 0) 25 r9) 53 ((f 53) + 1))) rfl ⟨e0.symm, e1.symm⟩ dX7_sendOn_186

def t_X7_tick_1_f (F6 : Nat → Int32) : Nat → Int32 := if F6 5 = 0 then F6 else if (r_X7_trusts_0 F6) = 0 then (if F6 8 < (r_X7_limitOn_0 F6) then F6 else upd (upd (upd (upd (upd F6 5 0) 6 0) 3 (F6 0)) 4 (F6 1)) 11 0) else F6
def t_X7_tick_2_Z (F5 : Nat → Int32) (F14 : Nat → Int32) : Nat → Int32 := if F14 10 = 1 then (s_X7_sendOn_0_Z F5) else if (r_X7_max ((F14 9) - 1) 0) = 0 then (if (r_X7_isStill_0 (upd F14 9 (r_X7_max ((F14 9) - 1) 0))) = 0 then (s_X7_sendOn_0_Z F5) else F5) else F5
def t_X7_tick_2_f (F5 : Nat → Int32) (F14 : Nat → Int32) : Nat → Int32 := if F14 10 = 1 then (s_X7_sendOn_0_f F5 (upd F14 9 (r_X7_max ((F14 9) - 1) 0))) else if (r_X7_max ((F14 9) - 1) 0) = 0 then (if (r_X7_isStill_0 (upd F14 9 (r_X7_max ((F14 9) - 1) 0))) = 0 then (s_X7_sendOn_0_f F5 (upd F14 9 (r_X7_max ((F14 9) - 1) 0))) else upd F14 9 (r_X7_max ((F14 9) - 1) 0)) else upd F14 9 (r_X7_max ((F14 9) - 1) 0)
def t_X7_tick_3_Z (F5 : Nat → Int32) (F14 : Nat → Int32) : Nat → Int32 := if F14 10 = 1 then (s_X7_sendOn_0_Z F5) else if (r_X7_max ((F14 9) - 1) 0) = 0 then (if (r_X7_isStill_0 (upd F14 9 (r_X7_max ((F14 9) - 1) 0))) = 0 then (s_X7_sendOn_0_Z F5) else F5) else F5
def t_X7_tick_3_f (F5 : Nat → Int32) (F14 : Nat → Int32) : Nat → Int32 := if F14 10 = 1 then (s_X7_sendOn_0_f F5 (upd F14 9 (r_X7_max ((F14 9) - 1) 0))) else if (r_X7_max ((F14 9) - 1) 0) = 0 then (if (r_X7_isStill_0 (upd F14 9 (r_X7_max ((F14 9) - 1) 0))) = 0 then (s_X7_sendOn_0_f F5 (upd F14 9 (r_X7_max ((F14 9) - 1) 0))) else upd F14 9 (r_X7_max ((F14 9) - 1) 0)) else upd F14 9 (r_X7_max ((F14 9) - 1) 0)
def t_X7_tick_4_Z (F5 : Nat → Int32) (F14 : Nat → Int32) : Nat → Int32 := if F14 10 = 1 then (s_X7_sendOn_0_Z F5) else if (r_X7_max ((F14 9) - 1) 0) = 0 then (if (r_X7_isStill_0 (upd F14 9 (r_X7_max ((F14 9) - 1) 0))) = 0 then (s_X7_sendOn_0_Z F5) else F5) else F5
def t_X7_tick_4_f (F5 : Nat → Int32) (F14 : Nat → Int32) : Nat → Int32 := if F14 10 = 1 then (s_X7_sendOn_0_f F5 (upd F14 9 (r_X7_max ((F14 9) - 1) 0))) else if (r_X7_max ((F14 9) - 1) 0) = 0 then (if (r_X7_isStill_0 (upd F14 9 (r_X7_max ((F14 9) - 1) 0))) = 0 then (s_X7_sendOn_0_f F5 (upd F14 9 (r_X7_max ((F14 9) - 1) 0))) else upd F14 9 (r_X7_max ((F14 9) - 1) 0)) else upd F14 9 (r_X7_max ((F14 9) - 1) 0)
def t_X7_tick_5_Z (F5 : Nat → Int32) (F14 : Nat → Int32) : Nat → Int32 := if F14 10 = 1 then (s_X7_sendOn_0_Z F5) else if (r_X7_max ((F14 9) - 1) 0) = 0 then (if (r_X7_isStill_0 (upd (upd (upd (upd (upd (upd F14 21 0) 22 0) 19 (F14 16)) 20 (F14 17)) 27 0) 9 (r_X7_max ((F14 9) - 1) 0))) = 0 then (s_X7_sendOn_0_Z F5) else F5) else F5
def t_X7_tick_5_f (F5 : Nat → Int32) (F14 : Nat → Int32) : Nat → Int32 := if F14 10 = 1 then (s_X7_sendOn_0_f F5 (upd (upd (upd (upd (upd (upd F14 21 0) 22 0) 19 (F14 16)) 20 (F14 17)) 27 0) 9 (r_X7_max ((F14 9) - 1) 0))) else if (r_X7_max ((F14 9) - 1) 0) = 0 then (if (r_X7_isStill_0 (upd (upd (upd (upd (upd (upd F14 21 0) 22 0) 19 (F14 16)) 20 (F14 17)) 27 0) 9 (r_X7_max ((F14 9) - 1) 0))) = 0 then (s_X7_sendOn_0_f F5 (upd (upd (upd (upd (upd (upd F14 21 0) 22 0) 19 (F14 16)) 20 (F14 17)) 27 0) 9 (r_X7_max ((F14 9) - 1) 0))) else upd (upd (upd (upd (upd (upd F14 21 0) 22 0) 19 (F14 16)) 20 (F14 17)) 27 0) 9 (r_X7_max ((F14 9) - 1) 0)) else upd (upd (upd (upd (upd (upd F14 21 0) 22 0) 19 (F14 16)) 20 (F14 17)) 27 0) 9 (r_X7_max ((F14 9) - 1) 0)
def s_X7_tick_Z (Z : Nat → Int32) (f : Nat → Int32) : Nat → Int32 := if (t_X7_tick_1_f (s_X7_take_1_f (s_X7_take_0_Z Z (upd f 52 ((f 52) + 1))) (s_X7_take_0_f Z (upd f 52 ((f 52) + 1))))) 21 = 0 then (if (t_X7_tick_2_f (s_X7_take_1_Z (s_X7_take_0_Z Z (upd f 52 ((f 52) + 1))) (s_X7_take_0_f Z (upd f 52 ((f 52) + 1)))) (t_X7_tick_1_f (s_X7_take_1_f (s_X7_take_0_Z Z (upd f 52 ((f 52) + 1))) (s_X7_take_0_f Z (upd f 52 ((f 52) + 1)))))) 26 = 1 then (if (s_X7_sendOn_1_f (t_X7_tick_2_Z (s_X7_take_1_Z (s_X7_take_0_Z Z (upd f 52 ((f 52) + 1))) (s_X7_take_0_f Z (upd f 52 ((f 52) + 1)))) (t_X7_tick_1_f (s_X7_take_1_f (s_X7_take_0_Z Z (upd f 52 ((f 52) + 1))) (s_X7_take_0_f Z (upd f 52 ((f 52) + 1)))))) (upd (t_X7_tick_2_f (s_X7_take_1_Z (s_X7_take_0_Z Z (upd f 52 ((f 52) + 1))) (s_X7_take_0_f Z (upd f 52 ((f 52) + 1)))) (t_X7_tick_1_f (s_X7_take_1_f (s_X7_take_0_Z Z (upd f 52 ((f 52) + 1))) (s_X7_take_0_f Z (upd f 52 ((f 52) + 1)))))) 25 (r_X7_max (((t_X7_tick_2_f (s_X7_take_1_Z (s_X7_take_0_Z Z (upd f 52 ((f 52) + 1))) (s_X7_take_0_f Z (upd f 52 ((f 52) + 1)))) (t_X7_tick_1_f (s_X7_take_1_f (s_X7_take_0_Z Z (upd f 52 ((f 52) + 1))) (s_X7_take_0_f Z (upd f 52 ((f 52) + 1)))))) 25) - 1) 0))) 5 = 2 then (if (s_X7_sendOn_1_f (t_X7_tick_2_Z (s_X7_take_1_Z (s_X7_take_0_Z Z (upd f 52 ((f 52) + 1))) (s_X7_take_0_f Z (upd f 52 ((f 52) + 1)))) (t_X7_tick_1_f (s_X7_take_1_f (s_X7_take_0_Z Z (upd f 52 ((f 52) + 1))) (s_X7_take_0_f Z (upd f 52 ((f 52) + 1)))))) (upd (t_X7_tick_2_f (s_X7_take_1_Z (s_X7_take_0_Z Z (upd f 52 ((f 52) + 1))) (s_X7_take_0_f Z (upd f 52 ((f 52) + 1)))) (t_X7_tick_1_f (s_X7_take_1_f (s_X7_take_0_Z Z (upd f 52 ((f 52) + 1))) (s_X7_take_0_f Z (upd f 52 ((f 52) + 1)))))) 25 (r_X7_max (((t_X7_tick_2_f (s_X7_take_1_Z (s_X7_take_0_Z Z (upd f 52 ((f 52) + 1))) (s_X7_take_0_f Z (upd f 52 ((f 52) + 1)))) (t_X7_tick_1_f (s_X7_take_1_f (s_X7_take_0_Z Z (upd f 52 ((f 52) + 1))) (s_X7_take_0_f Z (upd f 52 ((f 52) + 1)))))) 25) - 1) 0))) 21 = 2 then (s_X7_sendOn_1_Z (t_X7_tick_2_Z (s_X7_take_1_Z (s_X7_take_0_Z Z (upd f 52 ((f 52) + 1))) (s_X7_take_0_f Z (upd f 52 ((f 52) + 1)))) (t_X7_tick_1_f (s_X7_take_1_f (s_X7_take_0_Z Z (upd f 52 ((f 52) + 1))) (s_X7_take_0_f Z (upd f 52 ((f 52) + 1))))))) else s_X7_sendOn_1_Z (t_X7_tick_2_Z (s_X7_take_1_Z (s_X7_take_0_Z Z (upd f 52 ((f 52) + 1))) (s_X7_take_0_f Z (upd f 52 ((f 52) + 1)))) (t_X7_tick_1_f (s_X7_take_1_f (s_X7_take_0_Z Z (upd f 52 ((f 52) + 1))) (s_X7_take_0_f Z (upd f 52 ((f 52) + 1))))))) else s_X7_sendOn_1_Z (t_X7_tick_2_Z (s_X7_take_1_Z (s_X7_take_0_Z Z (upd f 52 ((f 52) + 1))) (s_X7_take_0_f Z (upd f 52 ((f 52) + 1)))) (t_X7_tick_1_f (s_X7_take_1_f (s_X7_take_0_Z Z (upd f 52 ((f 52) + 1))) (s_X7_take_0_f Z (upd f 52 ((f 52) + 1))))))) else if (r_X7_max (((t_X7_tick_2_f (s_X7_take_1_Z (s_X7_take_0_Z Z (upd f 52 ((f 52) + 1))) (s_X7_take_0_f Z (upd f 52 ((f 52) + 1)))) (t_X7_tick_1_f (s_X7_take_1_f (s_X7_take_0_Z Z (upd f 52 ((f 52) + 1))) (s_X7_take_0_f Z (upd f 52 ((f 52) + 1)))))) 25) - 1) 0) = 0 then (if (r_X7_isStill_16 (upd (t_X7_tick_2_f (s_X7_take_1_Z (s_X7_take_0_Z Z (upd f 52 ((f 52) + 1))) (s_X7_take_0_f Z (upd f 52 ((f 52) + 1)))) (t_X7_tick_1_f (s_X7_take_1_f (s_X7_take_0_Z Z (upd f 52 ((f 52) + 1))) (s_X7_take_0_f Z (upd f 52 ((f 52) + 1)))))) 25 (r_X7_max (((t_X7_tick_2_f (s_X7_take_1_Z (s_X7_take_0_Z Z (upd f 52 ((f 52) + 1))) (s_X7_take_0_f Z (upd f 52 ((f 52) + 1)))) (t_X7_tick_1_f (s_X7_take_1_f (s_X7_take_0_Z Z (upd f 52 ((f 52) + 1))) (s_X7_take_0_f Z (upd f 52 ((f 52) + 1)))))) 25) - 1) 0))) = 0 then (if (s_X7_sendOn_1_f (t_X7_tick_2_Z (s_X7_take_1_Z (s_X7_take_0_Z Z (upd f 52 ((f 52) + 1))) (s_X7_take_0_f Z (upd f 52 ((f 52) + 1)))) (t_X7_tick_1_f (s_X7_take_1_f (s_X7_take_0_Z Z (upd f 52 ((f 52) + 1))) (s_X7_take_0_f Z (upd f 52 ((f 52) + 1)))))) (upd (t_X7_tick_2_f (s_X7_take_1_Z (s_X7_take_0_Z Z (upd f 52 ((f 52) + 1))) (s_X7_take_0_f Z (upd f 52 ((f 52) + 1)))) (t_X7_tick_1_f (s_X7_take_1_f (s_X7_take_0_Z Z (upd f 52 ((f 52) + 1))) (s_X7_take_0_f Z (upd f 52 ((f 52) + 1)))))) 25 (r_X7_max (((t_X7_tick_2_f (s_X7_take_1_Z (s_X7_take_0_Z Z (upd f 52 ((f 52) + 1))) (s_X7_take_0_f Z (upd f 52 ((f 52) + 1)))) (t_X7_tick_1_f (s_X7_take_1_f (s_X7_take_0_Z Z (upd f 52 ((f 52) + 1))) (s_X7_take_0_f Z (upd f 52 ((f 52) + 1)))))) 25) - 1) 0))) 5 = 2 then (if (s_X7_sendOn_1_f (t_X7_tick_2_Z (s_X7_take_1_Z (s_X7_take_0_Z Z (upd f 52 ((f 52) + 1))) (s_X7_take_0_f Z (upd f 52 ((f 52) + 1)))) (t_X7_tick_1_f (s_X7_take_1_f (s_X7_take_0_Z Z (upd f 52 ((f 52) + 1))) (s_X7_take_0_f Z (upd f 52 ((f 52) + 1)))))) (upd (t_X7_tick_2_f (s_X7_take_1_Z (s_X7_take_0_Z Z (upd f 52 ((f 52) + 1))) (s_X7_take_0_f Z (upd f 52 ((f 52) + 1)))) (t_X7_tick_1_f (s_X7_take_1_f (s_X7_take_0_Z Z (upd f 52 ((f 52) + 1))) (s_X7_take_0_f Z (upd f 52 ((f 52) + 1)))))) 25 (r_X7_max (((t_X7_tick_2_f (s_X7_take_1_Z (s_X7_take_0_Z Z (upd f 52 ((f 52) + 1))) (s_X7_take_0_f Z (upd f 52 ((f 52) + 1)))) (t_X7_tick_1_f (s_X7_take_1_f (s_X7_take_0_Z Z (upd f 52 ((f 52) + 1))) (s_X7_take_0_f Z (upd f 52 ((f 52) + 1)))))) 25) - 1) 0))) 21 = 2 then (s_X7_sendOn_1_Z (t_X7_tick_2_Z (s_X7_take_1_Z (s_X7_take_0_Z Z (upd f 52 ((f 52) + 1))) (s_X7_take_0_f Z (upd f 52 ((f 52) + 1)))) (t_X7_tick_1_f (s_X7_take_1_f (s_X7_take_0_Z Z (upd f 52 ((f 52) + 1))) (s_X7_take_0_f Z (upd f 52 ((f 52) + 1))))))) else s_X7_sendOn_1_Z (t_X7_tick_2_Z (s_X7_take_1_Z (s_X7_take_0_Z Z (upd f 52 ((f 52) + 1))) (s_X7_take_0_f Z (upd f 52 ((f 52) + 1)))) (t_X7_tick_1_f (s_X7_take_1_f (s_X7_take_0_Z Z (upd f 52 ((f 52) + 1))) (s_X7_take_0_f Z (upd f 52 ((f 52) + 1))))))) else s_X7_sendOn_1_Z (t_X7_tick_2_Z (s_X7_take_1_Z (s_X7_take_0_Z Z (upd f 52 ((f 52) + 1))) (s_X7_take_0_f Z (upd f 52 ((f 52) + 1)))) (t_X7_tick_1_f (s_X7_take_1_f (s_X7_take_0_Z Z (upd f 52 ((f 52) + 1))) (s_X7_take_0_f Z (upd f 52 ((f 52) + 1))))))) else if (t_X7_tick_2_f (s_X7_take_1_Z (s_X7_take_0_Z Z (upd f 52 ((f 52) + 1))) (s_X7_take_0_f Z (upd f 52 ((f 52) + 1)))) (t_X7_tick_1_f (s_X7_take_1_f (s_X7_take_0_Z Z (upd f 52 ((f 52) + 1))) (s_X7_take_0_f Z (upd f 52 ((f 52) + 1)))))) 5 = 2 then (if (t_X7_tick_2_f (s_X7_take_1_Z (s_X7_take_0_Z Z (upd f 52 ((f 52) + 1))) (s_X7_take_0_f Z (upd f 52 ((f 52) + 1)))) (t_X7_tick_1_f (s_X7_take_1_f (s_X7_take_0_Z Z (upd f 52 ((f 52) + 1))) (s_X7_take_0_f Z (upd f 52 ((f 52) + 1)))))) 21 = 2 then (t_X7_tick_2_Z (s_X7_take_1_Z (s_X7_take_0_Z Z (upd f 52 ((f 52) + 1))) (s_X7_take_0_f Z (upd f 52 ((f 52) + 1)))) (t_X7_tick_1_f (s_X7_take_1_f (s_X7_take_0_Z Z (upd f 52 ((f 52) + 1))) (s_X7_take_0_f Z (upd f 52 ((f 52) + 1)))))) else t_X7_tick_2_Z (s_X7_take_1_Z (s_X7_take_0_Z Z (upd f 52 ((f 52) + 1))) (s_X7_take_0_f Z (upd f 52 ((f 52) + 1)))) (t_X7_tick_1_f (s_X7_take_1_f (s_X7_take_0_Z Z (upd f 52 ((f 52) + 1))) (s_X7_take_0_f Z (upd f 52 ((f 52) + 1)))))) else t_X7_tick_2_Z (s_X7_take_1_Z (s_X7_take_0_Z Z (upd f 52 ((f 52) + 1))) (s_X7_take_0_f Z (upd f 52 ((f 52) + 1)))) (t_X7_tick_1_f (s_X7_take_1_f (s_X7_take_0_Z Z (upd f 52 ((f 52) + 1))) (s_X7_take_0_f Z (upd f 52 ((f 52) + 1)))))) else if (t_X7_tick_2_f (s_X7_take_1_Z (s_X7_take_0_Z Z (upd f 52 ((f 52) + 1))) (s_X7_take_0_f Z (upd f 52 ((f 52) + 1)))) (t_X7_tick_1_f (s_X7_take_1_f (s_X7_take_0_Z Z (upd f 52 ((f 52) + 1))) (s_X7_take_0_f Z (upd f 52 ((f 52) + 1)))))) 5 = 2 then (if (t_X7_tick_2_f (s_X7_take_1_Z (s_X7_take_0_Z Z (upd f 52 ((f 52) + 1))) (s_X7_take_0_f Z (upd f 52 ((f 52) + 1)))) (t_X7_tick_1_f (s_X7_take_1_f (s_X7_take_0_Z Z (upd f 52 ((f 52) + 1))) (s_X7_take_0_f Z (upd f 52 ((f 52) + 1)))))) 21 = 2 then (t_X7_tick_2_Z (s_X7_take_1_Z (s_X7_take_0_Z Z (upd f 52 ((f 52) + 1))) (s_X7_take_0_f Z (upd f 52 ((f 52) + 1)))) (t_X7_tick_1_f (s_X7_take_1_f (s_X7_take_0_Z Z (upd f 52 ((f 52) + 1))) (s_X7_take_0_f Z (upd f 52 ((f 52) + 1)))))) else t_X7_tick_2_Z (s_X7_take_1_Z (s_X7_take_0_Z Z (upd f 52 ((f 52) + 1))) (s_X7_take_0_f Z (upd f 52 ((f 52) + 1)))) (t_X7_tick_1_f (s_X7_take_1_f (s_X7_take_0_Z Z (upd f 52 ((f 52) + 1))) (s_X7_take_0_f Z (upd f 52 ((f 52) + 1)))))) else t_X7_tick_2_Z (s_X7_take_1_Z (s_X7_take_0_Z Z (upd f 52 ((f 52) + 1))) (s_X7_take_0_f Z (upd f 52 ((f 52) + 1)))) (t_X7_tick_1_f (s_X7_take_1_f (s_X7_take_0_Z Z (upd f 52 ((f 52) + 1))) (s_X7_take_0_f Z (upd f 52 ((f 52) + 1)))))) else if (r_X7_trusts_16 (t_X7_tick_1_f (s_X7_take_1_f (s_X7_take_0_Z Z (upd f 52 ((f 52) + 1))) (s_X7_take_0_f Z (upd f 52 ((f 52) + 1)))))) = 0 then (if (t_X7_tick_1_f (s_X7_take_1_f (s_X7_take_0_Z Z (upd f 52 ((f 52) + 1))) (s_X7_take_0_f Z (upd f 52 ((f 52) + 1))))) 24 < (r_X7_limitOn_16 (t_X7_tick_1_f (s_X7_take_1_f (s_X7_take_0_Z Z (upd f 52 ((f 52) + 1))) (s_X7_take_0_f Z (upd f 52 ((f 52) + 1)))))) then (if (t_X7_tick_4_f (s_X7_take_1_Z (s_X7_take_0_Z Z (upd f 52 ((f 52) + 1))) (s_X7_take_0_f Z (upd f 52 ((f 52) + 1)))) (t_X7_tick_1_f (s_X7_take_1_f (s_X7_take_0_Z Z (upd f 52 ((f 52) + 1))) (s_X7_take_0_f Z (upd f 52 ((f 52) + 1)))))) 26 = 1 then (if (s_X7_sendOn_1_f (t_X7_tick_4_Z (s_X7_take_1_Z (s_X7_take_0_Z Z (upd f 52 ((f 52) + 1))) (s_X7_take_0_f Z (upd f 52 ((f 52) + 1)))) (t_X7_tick_1_f (s_X7_take_1_f (s_X7_take_0_Z Z (upd f 52 ((f 52) + 1))) (s_X7_take_0_f Z (upd f 52 ((f 52) + 1)))))) (upd (t_X7_tick_4_f (s_X7_take_1_Z (s_X7_take_0_Z Z (upd f 52 ((f 52) + 1))) (s_X7_take_0_f Z (upd f 52 ((f 52) + 1)))) (t_X7_tick_1_f (s_X7_take_1_f (s_X7_take_0_Z Z (upd f 52 ((f 52) + 1))) (s_X7_take_0_f Z (upd f 52 ((f 52) + 1)))))) 25 (r_X7_max (((t_X7_tick_4_f (s_X7_take_1_Z (s_X7_take_0_Z Z (upd f 52 ((f 52) + 1))) (s_X7_take_0_f Z (upd f 52 ((f 52) + 1)))) (t_X7_tick_1_f (s_X7_take_1_f (s_X7_take_0_Z Z (upd f 52 ((f 52) + 1))) (s_X7_take_0_f Z (upd f 52 ((f 52) + 1)))))) 25) - 1) 0))) 5 = 2 then (if (s_X7_sendOn_1_f (t_X7_tick_4_Z (s_X7_take_1_Z (s_X7_take_0_Z Z (upd f 52 ((f 52) + 1))) (s_X7_take_0_f Z (upd f 52 ((f 52) + 1)))) (t_X7_tick_1_f (s_X7_take_1_f (s_X7_take_0_Z Z (upd f 52 ((f 52) + 1))) (s_X7_take_0_f Z (upd f 52 ((f 52) + 1)))))) (upd (t_X7_tick_4_f (s_X7_take_1_Z (s_X7_take_0_Z Z (upd f 52 ((f 52) + 1))) (s_X7_take_0_f Z (upd f 52 ((f 52) + 1)))) (t_X7_tick_1_f (s_X7_take_1_f (s_X7_take_0_Z Z (upd f 52 ((f 52) + 1))) (s_X7_take_0_f Z (upd f 52 ((f 52) + 1)))))) 25 (r_X7_max (((t_X7_tick_4_f (s_X7_take_1_Z (s_X7_take_0_Z Z (upd f 52 ((f 52) + 1))) (s_X7_take_0_f Z (upd f 52 ((f 52) + 1)))) (t_X7_tick_1_f (s_X7_take_1_f (s_X7_take_0_Z Z (upd f 52 ((f 52) + 1))) (s_X7_take_0_f Z (upd f 52 ((f 52) + 1)))))) 25) - 1) 0))) 21 = 2 then (s_X7_sendOn_1_Z (t_X7_tick_4_Z (s_X7_take_1_Z (s_X7_take_0_Z Z (upd f 52 ((f 52) + 1))) (s_X7_take_0_f Z (upd f 52 ((f 52) + 1)))) (t_X7_tick_1_f (s_X7_take_1_f (s_X7_take_0_Z Z (upd f 52 ((f 52) + 1))) (s_X7_take_0_f Z (upd f 52 ((f 52) + 1))))))) else s_X7_sendOn_1_Z (t_X7_tick_4_Z (s_X7_take_1_Z (s_X7_take_0_Z Z (upd f 52 ((f 52) + 1))) (s_X7_take_0_f Z (upd f 52 ((f 52) + 1)))) (t_X7_tick_1_f (s_X7_take_1_f (s_X7_take_0_Z Z (upd f 52 ((f 52) + 1))) (s_X7_take_0_f Z (upd f 52 ((f 52) + 1))))))) else s_X7_sendOn_1_Z (t_X7_tick_4_Z (s_X7_take_1_Z (s_X7_take_0_Z Z (upd f 52 ((f 52) + 1))) (s_X7_take_0_f Z (upd f 52 ((f 52) + 1)))) (t_X7_tick_1_f (s_X7_take_1_f (s_X7_take_0_Z Z (upd f 52 ((f 52) + 1))) (s_X7_take_0_f Z (upd f 52 ((f 52) + 1))))))) else if (r_X7_max (((t_X7_tick_4_f (s_X7_take_1_Z (s_X7_take_0_Z Z (upd f 52 ((f 52) + 1))) (s_X7_take_0_f Z (upd f 52 ((f 52) + 1)))) (t_X7_tick_1_f (s_X7_take_1_f (s_X7_take_0_Z Z (upd f 52 ((f 52) + 1))) (s_X7_take_0_f Z (upd f 52 ((f 52) + 1)))))) 25) - 1) 0) = 0 then (if (r_X7_isStill_16 (upd (t_X7_tick_4_f (s_X7_take_1_Z (s_X7_take_0_Z Z (upd f 52 ((f 52) + 1))) (s_X7_take_0_f Z (upd f 52 ((f 52) + 1)))) (t_X7_tick_1_f (s_X7_take_1_f (s_X7_take_0_Z Z (upd f 52 ((f 52) + 1))) (s_X7_take_0_f Z (upd f 52 ((f 52) + 1)))))) 25 (r_X7_max (((t_X7_tick_4_f (s_X7_take_1_Z (s_X7_take_0_Z Z (upd f 52 ((f 52) + 1))) (s_X7_take_0_f Z (upd f 52 ((f 52) + 1)))) (t_X7_tick_1_f (s_X7_take_1_f (s_X7_take_0_Z Z (upd f 52 ((f 52) + 1))) (s_X7_take_0_f Z (upd f 52 ((f 52) + 1)))))) 25) - 1) 0))) = 0 then (if (s_X7_sendOn_1_f (t_X7_tick_4_Z (s_X7_take_1_Z (s_X7_take_0_Z Z (upd f 52 ((f 52) + 1))) (s_X7_take_0_f Z (upd f 52 ((f 52) + 1)))) (t_X7_tick_1_f (s_X7_take_1_f (s_X7_take_0_Z Z (upd f 52 ((f 52) + 1))) (s_X7_take_0_f Z (upd f 52 ((f 52) + 1)))))) (upd (t_X7_tick_4_f (s_X7_take_1_Z (s_X7_take_0_Z Z (upd f 52 ((f 52) + 1))) (s_X7_take_0_f Z (upd f 52 ((f 52) + 1)))) (t_X7_tick_1_f (s_X7_take_1_f (s_X7_take_0_Z Z (upd f 52 ((f 52) + 1))) (s_X7_take_0_f Z (upd f 52 ((f 52) + 1)))))) 25 (r_X7_max (((t_X7_tick_4_f (s_X7_take_1_Z (s_X7_take_0_Z Z (upd f 52 ((f 52) + 1))) (s_X7_take_0_f Z (upd f 52 ((f 52) + 1)))) (t_X7_tick_1_f (s_X7_take_1_f (s_X7_take_0_Z Z (upd f 52 ((f 52) + 1))) (s_X7_take_0_f Z (upd f 52 ((f 52) + 1)))))) 25) - 1) 0))) 5 = 2 then (if (s_X7_sendOn_1_f (t_X7_tick_4_Z (s_X7_take_1_Z (s_X7_take_0_Z Z (upd f 52 ((f 52) + 1))) (s_X7_take_0_f Z (upd f 52 ((f 52) + 1)))) (t_X7_tick_1_f (s_X7_take_1_f (s_X7_take_0_Z Z (upd f 52 ((f 52) + 1))) (s_X7_take_0_f Z (upd f 52 ((f 52) + 1)))))) (upd (t_X7_tick_4_f (s_X7_take_1_Z (s_X7_take_0_Z Z (upd f 52 ((f 52) + 1))) (s_X7_take_0_f Z (upd f 52 ((f 52) + 1)))) (t_X7_tick_1_f (s_X7_take_1_f (s_X7_take_0_Z Z (upd f 52 ((f 52) + 1))) (s_X7_take_0_f Z (upd f 52 ((f 52) + 1)))))) 25 (r_X7_max (((t_X7_tick_4_f (s_X7_take_1_Z (s_X7_take_0_Z Z (upd f 52 ((f 52) + 1))) (s_X7_take_0_f Z (upd f 52 ((f 52) + 1)))) (t_X7_tick_1_f (s_X7_take_1_f (s_X7_take_0_Z Z (upd f 52 ((f 52) + 1))) (s_X7_take_0_f Z (upd f 52 ((f 52) + 1)))))) 25) - 1) 0))) 21 = 2 then (s_X7_sendOn_1_Z (t_X7_tick_4_Z (s_X7_take_1_Z (s_X7_take_0_Z Z (upd f 52 ((f 52) + 1))) (s_X7_take_0_f Z (upd f 52 ((f 52) + 1)))) (t_X7_tick_1_f (s_X7_take_1_f (s_X7_take_0_Z Z (upd f 52 ((f 52) + 1))) (s_X7_take_0_f Z (upd f 52 ((f 52) + 1))))))) else s_X7_sendOn_1_Z (t_X7_tick_4_Z (s_X7_take_1_Z (s_X7_take_0_Z Z (upd f 52 ((f 52) + 1))) (s_X7_take_0_f Z (upd f 52 ((f 52) + 1)))) (t_X7_tick_1_f (s_X7_take_1_f (s_X7_take_0_Z Z (upd f 52 ((f 52) + 1))) (s_X7_take_0_f Z (upd f 52 ((f 52) + 1))))))) else s_X7_sendOn_1_Z (t_X7_tick_4_Z (s_X7_take_1_Z (s_X7_take_0_Z Z (upd f 52 ((f 52) + 1))) (s_X7_take_0_f Z (upd f 52 ((f 52) + 1)))) (t_X7_tick_1_f (s_X7_take_1_f (s_X7_take_0_Z Z (upd f 52 ((f 52) + 1))) (s_X7_take_0_f Z (upd f 52 ((f 52) + 1))))))) else if (t_X7_tick_4_f (s_X7_take_1_Z (s_X7_take_0_Z Z (upd f 52 ((f 52) + 1))) (s_X7_take_0_f Z (upd f 52 ((f 52) + 1)))) (t_X7_tick_1_f (s_X7_take_1_f (s_X7_take_0_Z Z (upd f 52 ((f 52) + 1))) (s_X7_take_0_f Z (upd f 52 ((f 52) + 1)))))) 5 = 2 then (if (t_X7_tick_4_f (s_X7_take_1_Z (s_X7_take_0_Z Z (upd f 52 ((f 52) + 1))) (s_X7_take_0_f Z (upd f 52 ((f 52) + 1)))) (t_X7_tick_1_f (s_X7_take_1_f (s_X7_take_0_Z Z (upd f 52 ((f 52) + 1))) (s_X7_take_0_f Z (upd f 52 ((f 52) + 1)))))) 21 = 2 then (t_X7_tick_4_Z (s_X7_take_1_Z (s_X7_take_0_Z Z (upd f 52 ((f 52) + 1))) (s_X7_take_0_f Z (upd f 52 ((f 52) + 1)))) (t_X7_tick_1_f (s_X7_take_1_f (s_X7_take_0_Z Z (upd f 52 ((f 52) + 1))) (s_X7_take_0_f Z (upd f 52 ((f 52) + 1)))))) else t_X7_tick_4_Z (s_X7_take_1_Z (s_X7_take_0_Z Z (upd f 52 ((f 52) + 1))) (s_X7_take_0_f Z (upd f 52 ((f 52) + 1)))) (t_X7_tick_1_f (s_X7_take_1_f (s_X7_take_0_Z Z (upd f 52 ((f 52) + 1))) (s_X7_take_0_f Z (upd f 52 ((f 52) + 1)))))) else t_X7_tick_4_Z (s_X7_take_1_Z (s_X7_take_0_Z Z (upd f 52 ((f 52) + 1))) (s_X7_take_0_f Z (upd f 52 ((f 52) + 1)))) (t_X7_tick_1_f (s_X7_take_1_f (s_X7_take_0_Z Z (upd f 52 ((f 52) + 1))) (s_X7_take_0_f Z (upd f 52 ((f 52) + 1)))))) else if (t_X7_tick_4_f (s_X7_take_1_Z (s_X7_take_0_Z Z (upd f 52 ((f 52) + 1))) (s_X7_take_0_f Z (upd f 52 ((f 52) + 1)))) (t_X7_tick_1_f (s_X7_take_1_f (s_X7_take_0_Z Z (upd f 52 ((f 52) + 1))) (s_X7_take_0_f Z (upd f 52 ((f 52) + 1)))))) 5 = 2 then (if (t_X7_tick_4_f (s_X7_take_1_Z (s_X7_take_0_Z Z (upd f 52 ((f 52) + 1))) (s_X7_take_0_f Z (upd f 52 ((f 52) + 1)))) (t_X7_tick_1_f (s_X7_take_1_f (s_X7_take_0_Z Z (upd f 52 ((f 52) + 1))) (s_X7_take_0_f Z (upd f 52 ((f 52) + 1)))))) 21 = 2 then (t_X7_tick_4_Z (s_X7_take_1_Z (s_X7_take_0_Z Z (upd f 52 ((f 52) + 1))) (s_X7_take_0_f Z (upd f 52 ((f 52) + 1)))) (t_X7_tick_1_f (s_X7_take_1_f (s_X7_take_0_Z Z (upd f 52 ((f 52) + 1))) (s_X7_take_0_f Z (upd f 52 ((f 52) + 1)))))) else t_X7_tick_4_Z (s_X7_take_1_Z (s_X7_take_0_Z Z (upd f 52 ((f 52) + 1))) (s_X7_take_0_f Z (upd f 52 ((f 52) + 1)))) (t_X7_tick_1_f (s_X7_take_1_f (s_X7_take_0_Z Z (upd f 52 ((f 52) + 1))) (s_X7_take_0_f Z (upd f 52 ((f 52) + 1)))))) else t_X7_tick_4_Z (s_X7_take_1_Z (s_X7_take_0_Z Z (upd f 52 ((f 52) + 1))) (s_X7_take_0_f Z (upd f 52 ((f 52) + 1)))) (t_X7_tick_1_f (s_X7_take_1_f (s_X7_take_0_Z Z (upd f 52 ((f 52) + 1))) (s_X7_take_0_f Z (upd f 52 ((f 52) + 1)))))) else if (t_X7_tick_5_f (s_X7_take_1_Z (s_X7_take_0_Z Z (upd f 52 ((f 52) + 1))) (s_X7_take_0_f Z (upd f 52 ((f 52) + 1)))) (t_X7_tick_1_f (s_X7_take_1_f (s_X7_take_0_Z Z (upd f 52 ((f 52) + 1))) (s_X7_take_0_f Z (upd f 52 ((f 52) + 1)))))) 26 = 1 then (if (s_X7_sendOn_1_f (t_X7_tick_5_Z (s_X7_take_1_Z (s_X7_take_0_Z Z (upd f 52 ((f 52) + 1))) (s_X7_take_0_f Z (upd f 52 ((f 52) + 1)))) (t_X7_tick_1_f (s_X7_take_1_f (s_X7_take_0_Z Z (upd f 52 ((f 52) + 1))) (s_X7_take_0_f Z (upd f 52 ((f 52) + 1)))))) (upd (t_X7_tick_5_f (s_X7_take_1_Z (s_X7_take_0_Z Z (upd f 52 ((f 52) + 1))) (s_X7_take_0_f Z (upd f 52 ((f 52) + 1)))) (t_X7_tick_1_f (s_X7_take_1_f (s_X7_take_0_Z Z (upd f 52 ((f 52) + 1))) (s_X7_take_0_f Z (upd f 52 ((f 52) + 1)))))) 25 (r_X7_max (((t_X7_tick_5_f (s_X7_take_1_Z (s_X7_take_0_Z Z (upd f 52 ((f 52) + 1))) (s_X7_take_0_f Z (upd f 52 ((f 52) + 1)))) (t_X7_tick_1_f (s_X7_take_1_f (s_X7_take_0_Z Z (upd f 52 ((f 52) + 1))) (s_X7_take_0_f Z (upd f 52 ((f 52) + 1)))))) 25) - 1) 0))) 5 = 2 then (if (s_X7_sendOn_1_f (t_X7_tick_5_Z (s_X7_take_1_Z (s_X7_take_0_Z Z (upd f 52 ((f 52) + 1))) (s_X7_take_0_f Z (upd f 52 ((f 52) + 1)))) (t_X7_tick_1_f (s_X7_take_1_f (s_X7_take_0_Z Z (upd f 52 ((f 52) + 1))) (s_X7_take_0_f Z (upd f 52 ((f 52) + 1)))))) (upd (t_X7_tick_5_f (s_X7_take_1_Z (s_X7_take_0_Z Z (upd f 52 ((f 52) + 1))) (s_X7_take_0_f Z (upd f 52 ((f 52) + 1)))) (t_X7_tick_1_f (s_X7_take_1_f (s_X7_take_0_Z Z (upd f 52 ((f 52) + 1))) (s_X7_take_0_f Z (upd f 52 ((f 52) + 1)))))) 25 (r_X7_max (((t_X7_tick_5_f (s_X7_take_1_Z (s_X7_take_0_Z Z (upd f 52 ((f 52) + 1))) (s_X7_take_0_f Z (upd f 52 ((f 52) + 1)))) (t_X7_tick_1_f (s_X7_take_1_f (s_X7_take_0_Z Z (upd f 52 ((f 52) + 1))) (s_X7_take_0_f Z (upd f 52 ((f 52) + 1)))))) 25) - 1) 0))) 21 = 2 then (s_X7_sendOn_1_Z (t_X7_tick_5_Z (s_X7_take_1_Z (s_X7_take_0_Z Z (upd f 52 ((f 52) + 1))) (s_X7_take_0_f Z (upd f 52 ((f 52) + 1)))) (t_X7_tick_1_f (s_X7_take_1_f (s_X7_take_0_Z Z (upd f 52 ((f 52) + 1))) (s_X7_take_0_f Z (upd f 52 ((f 52) + 1))))))) else s_X7_sendOn_1_Z (t_X7_tick_5_Z (s_X7_take_1_Z (s_X7_take_0_Z Z (upd f 52 ((f 52) + 1))) (s_X7_take_0_f Z (upd f 52 ((f 52) + 1)))) (t_X7_tick_1_f (s_X7_take_1_f (s_X7_take_0_Z Z (upd f 52 ((f 52) + 1))) (s_X7_take_0_f Z (upd f 52 ((f 52) + 1))))))) else s_X7_sendOn_1_Z (t_X7_tick_5_Z (s_X7_take_1_Z (s_X7_take_0_Z Z (upd f 52 ((f 52) + 1))) (s_X7_take_0_f Z (upd f 52 ((f 52) + 1)))) (t_X7_tick_1_f (s_X7_take_1_f (s_X7_take_0_Z Z (upd f 52 ((f 52) + 1))) (s_X7_take_0_f Z (upd f 52 ((f 52) + 1))))))) else if (r_X7_max (((t_X7_tick_5_f (s_X7_take_1_Z (s_X7_take_0_Z Z (upd f 52 ((f 52) + 1))) (s_X7_take_0_f Z (upd f 52 ((f 52) + 1)))) (t_X7_tick_1_f (s_X7_take_1_f (s_X7_take_0_Z Z (upd f 52 ((f 52) + 1))) (s_X7_take_0_f Z (upd f 52 ((f 52) + 1)))))) 25) - 1) 0) = 0 then (if (r_X7_isStill_16 (upd (t_X7_tick_5_f (s_X7_take_1_Z (s_X7_take_0_Z Z (upd f 52 ((f 52) + 1))) (s_X7_take_0_f Z (upd f 52 ((f 52) + 1)))) (t_X7_tick_1_f (s_X7_take_1_f (s_X7_take_0_Z Z (upd f 52 ((f 52) + 1))) (s_X7_take_0_f Z (upd f 52 ((f 52) + 1)))))) 25 (r_X7_max (((t_X7_tick_5_f (s_X7_take_1_Z (s_X7_take_0_Z Z (upd f 52 ((f 52) + 1))) (s_X7_take_0_f Z (upd f 52 ((f 52) + 1)))) (t_X7_tick_1_f (s_X7_take_1_f (s_X7_take_0_Z Z (upd f 52 ((f 52) + 1))) (s_X7_take_0_f Z (upd f 52 ((f 52) + 1)))))) 25) - 1) 0))) = 0 then (if (s_X7_sendOn_1_f (t_X7_tick_5_Z (s_X7_take_1_Z (s_X7_take_0_Z Z (upd f 52 ((f 52) + 1))) (s_X7_take_0_f Z (upd f 52 ((f 52) + 1)))) (t_X7_tick_1_f (s_X7_take_1_f (s_X7_take_0_Z Z (upd f 52 ((f 52) + 1))) (s_X7_take_0_f Z (upd f 52 ((f 52) + 1)))))) (upd (t_X7_tick_5_f (s_X7_take_1_Z (s_X7_take_0_Z Z (upd f 52 ((f 52) + 1))) (s_X7_take_0_f Z (upd f 52 ((f 52) + 1)))) (t_X7_tick_1_f (s_X7_take_1_f (s_X7_take_0_Z Z (upd f 52 ((f 52) + 1))) (s_X7_take_0_f Z (upd f 52 ((f 52) + 1)))))) 25 (r_X7_max (((t_X7_tick_5_f (s_X7_take_1_Z (s_X7_take_0_Z Z (upd f 52 ((f 52) + 1))) (s_X7_take_0_f Z (upd f 52 ((f 52) + 1)))) (t_X7_tick_1_f (s_X7_take_1_f (s_X7_take_0_Z Z (upd f 52 ((f 52) + 1))) (s_X7_take_0_f Z (upd f 52 ((f 52) + 1)))))) 25) - 1) 0))) 5 = 2 then (if (s_X7_sendOn_1_f (t_X7_tick_5_Z (s_X7_take_1_Z (s_X7_take_0_Z Z (upd f 52 ((f 52) + 1))) (s_X7_take_0_f Z (upd f 52 ((f 52) + 1)))) (t_X7_tick_1_f (s_X7_take_1_f (s_X7_take_0_Z Z (upd f 52 ((f 52) + 1))) (s_X7_take_0_f Z (upd f 52 ((f 52) + 1)))))) (upd (t_X7_tick_5_f (s_X7_take_1_Z (s_X7_take_0_Z Z (upd f 52 ((f 52) + 1))) (s_X7_take_0_f Z (upd f 52 ((f 52) + 1)))) (t_X7_tick_1_f (s_X7_take_1_f (s_X7_take_0_Z Z (upd f 52 ((f 52) + 1))) (s_X7_take_0_f Z (upd f 52 ((f 52) + 1)))))) 25 (r_X7_max (((t_X7_tick_5_f (s_X7_take_1_Z (s_X7_take_0_Z Z (upd f 52 ((f 52) + 1))) (s_X7_take_0_f Z (upd f 52 ((f 52) + 1)))) (t_X7_tick_1_f (s_X7_take_1_f (s_X7_take_0_Z Z (upd f 52 ((f 52) + 1))) (s_X7_take_0_f Z (upd f 52 ((f 52) + 1)))))) 25) - 1) 0))) 21 = 2 then (s_X7_sendOn_1_Z (t_X7_tick_5_Z (s_X7_take_1_Z (s_X7_take_0_Z Z (upd f 52 ((f 52) + 1))) (s_X7_take_0_f Z (upd f 52 ((f 52) + 1)))) (t_X7_tick_1_f (s_X7_take_1_f (s_X7_take_0_Z Z (upd f 52 ((f 52) + 1))) (s_X7_take_0_f Z (upd f 52 ((f 52) + 1))))))) else s_X7_sendOn_1_Z (t_X7_tick_5_Z (s_X7_take_1_Z (s_X7_take_0_Z Z (upd f 52 ((f 52) + 1))) (s_X7_take_0_f Z (upd f 52 ((f 52) + 1)))) (t_X7_tick_1_f (s_X7_take_1_f (s_X7_take_0_Z Z (upd f 52 ((f 52) + 1))) (s_X7_take_0_f Z (upd f 52 ((f 52) + 1))))))) else s_X7_sendOn_1_Z (t_X7_tick_5_Z (s_X7_take_1_Z (s_X7_take_0_Z Z (upd f 52 ((f 52) + 1))) (s_X7_take_0_f Z (upd f 52 ((f 52) + 1)))) (t_X7_tick_1_f (s_X7_take_1_f (s_X7_take_0_Z Z (upd f 52 ((f 52) + 1))) (s_X7_take_0_f Z (upd f 52 ((f 52) + 1))))))) else if (t_X7_tick_5_f (s_X7_take_1_Z (s_X7_take_0_Z Z (upd f 52 ((f 52) + 1))) (s_X7_take_0_f Z (upd f 52 ((f 52) + 1)))) (t_X7_tick_1_f (s_X7_take_1_f (s_X7_take_0_Z Z (upd f 52 ((f 52) + 1))) (s_X7_take_0_f Z (upd f 52 ((f 52) + 1)))))) 5 = 2 then (if (t_X7_tick_5_f (s_X7_take_1_Z (s_X7_take_0_Z Z (upd f 52 ((f 52) + 1))) (s_X7_take_0_f Z (upd f 52 ((f 52) + 1)))) (t_X7_tick_1_f (s_X7_take_1_f (s_X7_take_0_Z Z (upd f 52 ((f 52) + 1))) (s_X7_take_0_f Z (upd f 52 ((f 52) + 1)))))) 21 = 2 then (t_X7_tick_5_Z (s_X7_take_1_Z (s_X7_take_0_Z Z (upd f 52 ((f 52) + 1))) (s_X7_take_0_f Z (upd f 52 ((f 52) + 1)))) (t_X7_tick_1_f (s_X7_take_1_f (s_X7_take_0_Z Z (upd f 52 ((f 52) + 1))) (s_X7_take_0_f Z (upd f 52 ((f 52) + 1)))))) else t_X7_tick_5_Z (s_X7_take_1_Z (s_X7_take_0_Z Z (upd f 52 ((f 52) + 1))) (s_X7_take_0_f Z (upd f 52 ((f 52) + 1)))) (t_X7_tick_1_f (s_X7_take_1_f (s_X7_take_0_Z Z (upd f 52 ((f 52) + 1))) (s_X7_take_0_f Z (upd f 52 ((f 52) + 1)))))) else t_X7_tick_5_Z (s_X7_take_1_Z (s_X7_take_0_Z Z (upd f 52 ((f 52) + 1))) (s_X7_take_0_f Z (upd f 52 ((f 52) + 1)))) (t_X7_tick_1_f (s_X7_take_1_f (s_X7_take_0_Z Z (upd f 52 ((f 52) + 1))) (s_X7_take_0_f Z (upd f 52 ((f 52) + 1)))))) else if (t_X7_tick_5_f (s_X7_take_1_Z (s_X7_take_0_Z Z (upd f 52 ((f 52) + 1))) (s_X7_take_0_f Z (upd f 52 ((f 52) + 1)))) (t_X7_tick_1_f (s_X7_take_1_f (s_X7_take_0_Z Z (upd f 52 ((f 52) + 1))) (s_X7_take_0_f Z (upd f 52 ((f 52) + 1)))))) 5 = 2 then (if (t_X7_tick_5_f (s_X7_take_1_Z (s_X7_take_0_Z Z (upd f 52 ((f 52) + 1))) (s_X7_take_0_f Z (upd f 52 ((f 52) + 1)))) (t_X7_tick_1_f (s_X7_take_1_f (s_X7_take_0_Z Z (upd f 52 ((f 52) + 1))) (s_X7_take_0_f Z (upd f 52 ((f 52) + 1)))))) 21 = 2 then (t_X7_tick_5_Z (s_X7_take_1_Z (s_X7_take_0_Z Z (upd f 52 ((f 52) + 1))) (s_X7_take_0_f Z (upd f 52 ((f 52) + 1)))) (t_X7_tick_1_f (s_X7_take_1_f (s_X7_take_0_Z Z (upd f 52 ((f 52) + 1))) (s_X7_take_0_f Z (upd f 52 ((f 52) + 1)))))) else t_X7_tick_5_Z (s_X7_take_1_Z (s_X7_take_0_Z Z (upd f 52 ((f 52) + 1))) (s_X7_take_0_f Z (upd f 52 ((f 52) + 1)))) (t_X7_tick_1_f (s_X7_take_1_f (s_X7_take_0_Z Z (upd f 52 ((f 52) + 1))) (s_X7_take_0_f Z (upd f 52 ((f 52) + 1)))))) else t_X7_tick_5_Z (s_X7_take_1_Z (s_X7_take_0_Z Z (upd f 52 ((f 52) + 1))) (s_X7_take_0_f Z (upd f 52 ((f 52) + 1)))) (t_X7_tick_1_f (s_X7_take_1_f (s_X7_take_0_Z Z (upd f 52 ((f 52) + 1))) (s_X7_take_0_f Z (upd f 52 ((f 52) + 1)))))) else if (t_X7_tick_3_f (s_X7_take_1_Z (s_X7_take_0_Z Z (upd f 52 ((f 52) + 1))) (s_X7_take_0_f Z (upd f 52 ((f 52) + 1)))) (t_X7_tick_1_f (s_X7_take_1_f (s_X7_take_0_Z Z (upd f 52 ((f 52) + 1))) (s_X7_take_0_f Z (upd f 52 ((f 52) + 1)))))) 26 = 1 then (if (s_X7_sendOn_1_f (t_X7_tick_3_Z (s_X7_take_1_Z (s_X7_take_0_Z Z (upd f 52 ((f 52) + 1))) (s_X7_take_0_f Z (upd f 52 ((f 52) + 1)))) (t_X7_tick_1_f (s_X7_take_1_f (s_X7_take_0_Z Z (upd f 52 ((f 52) + 1))) (s_X7_take_0_f Z (upd f 52 ((f 52) + 1)))))) (upd (t_X7_tick_3_f (s_X7_take_1_Z (s_X7_take_0_Z Z (upd f 52 ((f 52) + 1))) (s_X7_take_0_f Z (upd f 52 ((f 52) + 1)))) (t_X7_tick_1_f (s_X7_take_1_f (s_X7_take_0_Z Z (upd f 52 ((f 52) + 1))) (s_X7_take_0_f Z (upd f 52 ((f 52) + 1)))))) 25 (r_X7_max (((t_X7_tick_3_f (s_X7_take_1_Z (s_X7_take_0_Z Z (upd f 52 ((f 52) + 1))) (s_X7_take_0_f Z (upd f 52 ((f 52) + 1)))) (t_X7_tick_1_f (s_X7_take_1_f (s_X7_take_0_Z Z (upd f 52 ((f 52) + 1))) (s_X7_take_0_f Z (upd f 52 ((f 52) + 1)))))) 25) - 1) 0))) 5 = 2 then (if (s_X7_sendOn_1_f (t_X7_tick_3_Z (s_X7_take_1_Z (s_X7_take_0_Z Z (upd f 52 ((f 52) + 1))) (s_X7_take_0_f Z (upd f 52 ((f 52) + 1)))) (t_X7_tick_1_f (s_X7_take_1_f (s_X7_take_0_Z Z (upd f 52 ((f 52) + 1))) (s_X7_take_0_f Z (upd f 52 ((f 52) + 1)))))) (upd (t_X7_tick_3_f (s_X7_take_1_Z (s_X7_take_0_Z Z (upd f 52 ((f 52) + 1))) (s_X7_take_0_f Z (upd f 52 ((f 52) + 1)))) (t_X7_tick_1_f (s_X7_take_1_f (s_X7_take_0_Z Z (upd f 52 ((f 52) + 1))) (s_X7_take_0_f Z (upd f 52 ((f 52) + 1)))))) 25 (r_X7_max (((t_X7_tick_3_f (s_X7_take_1_Z (s_X7_take_0_Z Z (upd f 52 ((f 52) + 1))) (s_X7_take_0_f Z (upd f 52 ((f 52) + 1)))) (t_X7_tick_1_f (s_X7_take_1_f (s_X7_take_0_Z Z (upd f 52 ((f 52) + 1))) (s_X7_take_0_f Z (upd f 52 ((f 52) + 1)))))) 25) - 1) 0))) 21 = 2 then (s_X7_sendOn_1_Z (t_X7_tick_3_Z (s_X7_take_1_Z (s_X7_take_0_Z Z (upd f 52 ((f 52) + 1))) (s_X7_take_0_f Z (upd f 52 ((f 52) + 1)))) (t_X7_tick_1_f (s_X7_take_1_f (s_X7_take_0_Z Z (upd f 52 ((f 52) + 1))) (s_X7_take_0_f Z (upd f 52 ((f 52) + 1))))))) else s_X7_sendOn_1_Z (t_X7_tick_3_Z (s_X7_take_1_Z (s_X7_take_0_Z Z (upd f 52 ((f 52) + 1))) (s_X7_take_0_f Z (upd f 52 ((f 52) + 1)))) (t_X7_tick_1_f (s_X7_take_1_f (s_X7_take_0_Z Z (upd f 52 ((f 52) + 1))) (s_X7_take_0_f Z (upd f 52 ((f 52) + 1))))))) else s_X7_sendOn_1_Z (t_X7_tick_3_Z (s_X7_take_1_Z (s_X7_take_0_Z Z (upd f 52 ((f 52) + 1))) (s_X7_take_0_f Z (upd f 52 ((f 52) + 1)))) (t_X7_tick_1_f (s_X7_take_1_f (s_X7_take_0_Z Z (upd f 52 ((f 52) + 1))) (s_X7_take_0_f Z (upd f 52 ((f 52) + 1))))))) else if (r_X7_max (((t_X7_tick_3_f (s_X7_take_1_Z (s_X7_take_0_Z Z (upd f 52 ((f 52) + 1))) (s_X7_take_0_f Z (upd f 52 ((f 52) + 1)))) (t_X7_tick_1_f (s_X7_take_1_f (s_X7_take_0_Z Z (upd f 52 ((f 52) + 1))) (s_X7_take_0_f Z (upd f 52 ((f 52) + 1)))))) 25) - 1) 0) = 0 then (if (r_X7_isStill_16 (upd (t_X7_tick_3_f (s_X7_take_1_Z (s_X7_take_0_Z Z (upd f 52 ((f 52) + 1))) (s_X7_take_0_f Z (upd f 52 ((f 52) + 1)))) (t_X7_tick_1_f (s_X7_take_1_f (s_X7_take_0_Z Z (upd f 52 ((f 52) + 1))) (s_X7_take_0_f Z (upd f 52 ((f 52) + 1)))))) 25 (r_X7_max (((t_X7_tick_3_f (s_X7_take_1_Z (s_X7_take_0_Z Z (upd f 52 ((f 52) + 1))) (s_X7_take_0_f Z (upd f 52 ((f 52) + 1)))) (t_X7_tick_1_f (s_X7_take_1_f (s_X7_take_0_Z Z (upd f 52 ((f 52) + 1))) (s_X7_take_0_f Z (upd f 52 ((f 52) + 1)))))) 25) - 1) 0))) = 0 then (if (s_X7_sendOn_1_f (t_X7_tick_3_Z (s_X7_take_1_Z (s_X7_take_0_Z Z (upd f 52 ((f 52) + 1))) (s_X7_take_0_f Z (upd f 52 ((f 52) + 1)))) (t_X7_tick_1_f (s_X7_take_1_f (s_X7_take_0_Z Z (upd f 52 ((f 52) + 1))) (s_X7_take_0_f Z (upd f 52 ((f 52) + 1)))))) (upd (t_X7_tick_3_f (s_X7_take_1_Z (s_X7_take_0_Z Z (upd f 52 ((f 52) + 1))) (s_X7_take_0_f Z (upd f 52 ((f 52) + 1)))) (t_X7_tick_1_f (s_X7_take_1_f (s_X7_take_0_Z Z (upd f 52 ((f 52) + 1))) (s_X7_take_0_f Z (upd f 52 ((f 52) + 1)))))) 25 (r_X7_max (((t_X7_tick_3_f (s_X7_take_1_Z (s_X7_take_0_Z Z (upd f 52 ((f 52) + 1))) (s_X7_take_0_f Z (upd f 52 ((f 52) + 1)))) (t_X7_tick_1_f (s_X7_take_1_f (s_X7_take_0_Z Z (upd f 52 ((f 52) + 1))) (s_X7_take_0_f Z (upd f 52 ((f 52) + 1)))))) 25) - 1) 0))) 5 = 2 then (if (s_X7_sendOn_1_f (t_X7_tick_3_Z (s_X7_take_1_Z (s_X7_take_0_Z Z (upd f 52 ((f 52) + 1))) (s_X7_take_0_f Z (upd f 52 ((f 52) + 1)))) (t_X7_tick_1_f (s_X7_take_1_f (s_X7_take_0_Z Z (upd f 52 ((f 52) + 1))) (s_X7_take_0_f Z (upd f 52 ((f 52) + 1)))))) (upd (t_X7_tick_3_f (s_X7_take_1_Z (s_X7_take_0_Z Z (upd f 52 ((f 52) + 1))) (s_X7_take_0_f Z (upd f 52 ((f 52) + 1)))) (t_X7_tick_1_f (s_X7_take_1_f (s_X7_take_0_Z Z (upd f 52 ((f 52) + 1))) (s_X7_take_0_f Z (upd f 52 ((f 52) + 1)))))) 25 (r_X7_max (((t_X7_tick_3_f (s_X7_take_1_Z (s_X7_take_0_Z Z (upd f 52 ((f 52) + 1))) (s_X7_take_0_f Z (upd f 52 ((f 52) + 1)))) (t_X7_tick_1_f (s_X7_take_1_f (s_X7_take_0_Z Z (upd f 52 ((f 52) + 1))) (s_X7_take_0_f Z (upd f 52 ((f 52) + 1)))))) 25) - 1) 0))) 21 = 2 then (s_X7_sendOn_1_Z (t_X7_tick_3_Z (s_X7_take_1_Z (s_X7_take_0_Z Z (upd f 52 ((f 52) + 1))) (s_X7_take_0_f Z (upd f 52 ((f 52) + 1)))) (t_X7_tick_1_f (s_X7_take_1_f (s_X7_take_0_Z Z (upd f 52 ((f 52) + 1))) (s_X7_take_0_f Z (upd f 52 ((f 52) + 1))))))) else s_X7_sendOn_1_Z (t_X7_tick_3_Z (s_X7_take_1_Z (s_X7_take_0_Z Z (upd f 52 ((f 52) + 1))) (s_X7_take_0_f Z (upd f 52 ((f 52) + 1)))) (t_X7_tick_1_f (s_X7_take_1_f (s_X7_take_0_Z Z (upd f 52 ((f 52) + 1))) (s_X7_take_0_f Z (upd f 52 ((f 52) + 1))))))) else s_X7_sendOn_1_Z (t_X7_tick_3_Z (s_X7_take_1_Z (s_X7_take_0_Z Z (upd f 52 ((f 52) + 1))) (s_X7_take_0_f Z (upd f 52 ((f 52) + 1)))) (t_X7_tick_1_f (s_X7_take_1_f (s_X7_take_0_Z Z (upd f 52 ((f 52) + 1))) (s_X7_take_0_f Z (upd f 52 ((f 52) + 1))))))) else if (t_X7_tick_3_f (s_X7_take_1_Z (s_X7_take_0_Z Z (upd f 52 ((f 52) + 1))) (s_X7_take_0_f Z (upd f 52 ((f 52) + 1)))) (t_X7_tick_1_f (s_X7_take_1_f (s_X7_take_0_Z Z (upd f 52 ((f 52) + 1))) (s_X7_take_0_f Z (upd f 52 ((f 52) + 1)))))) 5 = 2 then (if (t_X7_tick_3_f (s_X7_take_1_Z (s_X7_take_0_Z Z (upd f 52 ((f 52) + 1))) (s_X7_take_0_f Z (upd f 52 ((f 52) + 1)))) (t_X7_tick_1_f (s_X7_take_1_f (s_X7_take_0_Z Z (upd f 52 ((f 52) + 1))) (s_X7_take_0_f Z (upd f 52 ((f 52) + 1)))))) 21 = 2 then (t_X7_tick_3_Z (s_X7_take_1_Z (s_X7_take_0_Z Z (upd f 52 ((f 52) + 1))) (s_X7_take_0_f Z (upd f 52 ((f 52) + 1)))) (t_X7_tick_1_f (s_X7_take_1_f (s_X7_take_0_Z Z (upd f 52 ((f 52) + 1))) (s_X7_take_0_f Z (upd f 52 ((f 52) + 1)))))) else t_X7_tick_3_Z (s_X7_take_1_Z (s_X7_take_0_Z Z (upd f 52 ((f 52) + 1))) (s_X7_take_0_f Z (upd f 52 ((f 52) + 1)))) (t_X7_tick_1_f (s_X7_take_1_f (s_X7_take_0_Z Z (upd f 52 ((f 52) + 1))) (s_X7_take_0_f Z (upd f 52 ((f 52) + 1)))))) else t_X7_tick_3_Z (s_X7_take_1_Z (s_X7_take_0_Z Z (upd f 52 ((f 52) + 1))) (s_X7_take_0_f Z (upd f 52 ((f 52) + 1)))) (t_X7_tick_1_f (s_X7_take_1_f (s_X7_take_0_Z Z (upd f 52 ((f 52) + 1))) (s_X7_take_0_f Z (upd f 52 ((f 52) + 1)))))) else if (t_X7_tick_3_f (s_X7_take_1_Z (s_X7_take_0_Z Z (upd f 52 ((f 52) + 1))) (s_X7_take_0_f Z (upd f 52 ((f 52) + 1)))) (t_X7_tick_1_f (s_X7_take_1_f (s_X7_take_0_Z Z (upd f 52 ((f 52) + 1))) (s_X7_take_0_f Z (upd f 52 ((f 52) + 1)))))) 5 = 2 then (if (t_X7_tick_3_f (s_X7_take_1_Z (s_X7_take_0_Z Z (upd f 52 ((f 52) + 1))) (s_X7_take_0_f Z (upd f 52 ((f 52) + 1)))) (t_X7_tick_1_f (s_X7_take_1_f (s_X7_take_0_Z Z (upd f 52 ((f 52) + 1))) (s_X7_take_0_f Z (upd f 52 ((f 52) + 1)))))) 21 = 2 then (t_X7_tick_3_Z (s_X7_take_1_Z (s_X7_take_0_Z Z (upd f 52 ((f 52) + 1))) (s_X7_take_0_f Z (upd f 52 ((f 52) + 1)))) (t_X7_tick_1_f (s_X7_take_1_f (s_X7_take_0_Z Z (upd f 52 ((f 52) + 1))) (s_X7_take_0_f Z (upd f 52 ((f 52) + 1)))))) else t_X7_tick_3_Z (s_X7_take_1_Z (s_X7_take_0_Z Z (upd f 52 ((f 52) + 1))) (s_X7_take_0_f Z (upd f 52 ((f 52) + 1)))) (t_X7_tick_1_f (s_X7_take_1_f (s_X7_take_0_Z Z (upd f 52 ((f 52) + 1))) (s_X7_take_0_f Z (upd f 52 ((f 52) + 1)))))) else t_X7_tick_3_Z (s_X7_take_1_Z (s_X7_take_0_Z Z (upd f 52 ((f 52) + 1))) (s_X7_take_0_f Z (upd f 52 ((f 52) + 1)))) (t_X7_tick_1_f (s_X7_take_1_f (s_X7_take_0_Z Z (upd f 52 ((f 52) + 1))) (s_X7_take_0_f Z (upd f 52 ((f 52) + 1)))))
def s_X7_tick_f (Z : Nat → Int32) (f : Nat → Int32) : Nat → Int32 := if (t_X7_tick_1_f (s_X7_take_1_f (s_X7_take_0_Z Z (upd f 52 ((f 52) + 1))) (s_X7_take_0_f Z (upd f 52 ((f 52) + 1))))) 21 = 0 then (if (t_X7_tick_2_f (s_X7_take_1_Z (s_X7_take_0_Z Z (upd f 52 ((f 52) + 1))) (s_X7_take_0_f Z (upd f 52 ((f 52) + 1)))) (t_X7_tick_1_f (s_X7_take_1_f (s_X7_take_0_Z Z (upd f 52 ((f 52) + 1))) (s_X7_take_0_f Z (upd f 52 ((f 52) + 1)))))) 26 = 1 then (if (s_X7_sendOn_1_f (t_X7_tick_2_Z (s_X7_take_1_Z (s_X7_take_0_Z Z (upd f 52 ((f 52) + 1))) (s_X7_take_0_f Z (upd f 52 ((f 52) + 1)))) (t_X7_tick_1_f (s_X7_take_1_f (s_X7_take_0_Z Z (upd f 52 ((f 52) + 1))) (s_X7_take_0_f Z (upd f 52 ((f 52) + 1)))))) (upd (t_X7_tick_2_f (s_X7_take_1_Z (s_X7_take_0_Z Z (upd f 52 ((f 52) + 1))) (s_X7_take_0_f Z (upd f 52 ((f 52) + 1)))) (t_X7_tick_1_f (s_X7_take_1_f (s_X7_take_0_Z Z (upd f 52 ((f 52) + 1))) (s_X7_take_0_f Z (upd f 52 ((f 52) + 1)))))) 25 (r_X7_max (((t_X7_tick_2_f (s_X7_take_1_Z (s_X7_take_0_Z Z (upd f 52 ((f 52) + 1))) (s_X7_take_0_f Z (upd f 52 ((f 52) + 1)))) (t_X7_tick_1_f (s_X7_take_1_f (s_X7_take_0_Z Z (upd f 52 ((f 52) + 1))) (s_X7_take_0_f Z (upd f 52 ((f 52) + 1)))))) 25) - 1) 0))) 5 = 2 then (if (s_X7_sendOn_1_f (t_X7_tick_2_Z (s_X7_take_1_Z (s_X7_take_0_Z Z (upd f 52 ((f 52) + 1))) (s_X7_take_0_f Z (upd f 52 ((f 52) + 1)))) (t_X7_tick_1_f (s_X7_take_1_f (s_X7_take_0_Z Z (upd f 52 ((f 52) + 1))) (s_X7_take_0_f Z (upd f 52 ((f 52) + 1)))))) (upd (t_X7_tick_2_f (s_X7_take_1_Z (s_X7_take_0_Z Z (upd f 52 ((f 52) + 1))) (s_X7_take_0_f Z (upd f 52 ((f 52) + 1)))) (t_X7_tick_1_f (s_X7_take_1_f (s_X7_take_0_Z Z (upd f 52 ((f 52) + 1))) (s_X7_take_0_f Z (upd f 52 ((f 52) + 1)))))) 25 (r_X7_max (((t_X7_tick_2_f (s_X7_take_1_Z (s_X7_take_0_Z Z (upd f 52 ((f 52) + 1))) (s_X7_take_0_f Z (upd f 52 ((f 52) + 1)))) (t_X7_tick_1_f (s_X7_take_1_f (s_X7_take_0_Z Z (upd f 52 ((f 52) + 1))) (s_X7_take_0_f Z (upd f 52 ((f 52) + 1)))))) 25) - 1) 0))) 21 = 2 then (upd (s_X7_sendOn_1_f (t_X7_tick_2_Z (s_X7_take_1_Z (s_X7_take_0_Z Z (upd f 52 ((f 52) + 1))) (s_X7_take_0_f Z (upd f 52 ((f 52) + 1)))) (t_X7_tick_1_f (s_X7_take_1_f (s_X7_take_0_Z Z (upd f 52 ((f 52) + 1))) (s_X7_take_0_f Z (upd f 52 ((f 52) + 1)))))) (upd (t_X7_tick_2_f (s_X7_take_1_Z (s_X7_take_0_Z Z (upd f 52 ((f 52) + 1))) (s_X7_take_0_f Z (upd f 52 ((f 52) + 1)))) (t_X7_tick_1_f (s_X7_take_1_f (s_X7_take_0_Z Z (upd f 52 ((f 52) + 1))) (s_X7_take_0_f Z (upd f 52 ((f 52) + 1)))))) 25 (r_X7_max (((t_X7_tick_2_f (s_X7_take_1_Z (s_X7_take_0_Z Z (upd f 52 ((f 52) + 1))) (s_X7_take_0_f Z (upd f 52 ((f 52) + 1)))) (t_X7_tick_1_f (s_X7_take_1_f (s_X7_take_0_Z Z (upd f 52 ((f 52) + 1))) (s_X7_take_0_f Z (upd f 52 ((f 52) + 1)))))) 25) - 1) 0))) 54 (((s_X7_sendOn_1_f (t_X7_tick_2_Z (s_X7_take_1_Z (s_X7_take_0_Z Z (upd f 52 ((f 52) + 1))) (s_X7_take_0_f Z (upd f 52 ((f 52) + 1)))) (t_X7_tick_1_f (s_X7_take_1_f (s_X7_take_0_Z Z (upd f 52 ((f 52) + 1))) (s_X7_take_0_f Z (upd f 52 ((f 52) + 1)))))) (upd (t_X7_tick_2_f (s_X7_take_1_Z (s_X7_take_0_Z Z (upd f 52 ((f 52) + 1))) (s_X7_take_0_f Z (upd f 52 ((f 52) + 1)))) (t_X7_tick_1_f (s_X7_take_1_f (s_X7_take_0_Z Z (upd f 52 ((f 52) + 1))) (s_X7_take_0_f Z (upd f 52 ((f 52) + 1)))))) 25 (r_X7_max (((t_X7_tick_2_f (s_X7_take_1_Z (s_X7_take_0_Z Z (upd f 52 ((f 52) + 1))) (s_X7_take_0_f Z (upd f 52 ((f 52) + 1)))) (t_X7_tick_1_f (s_X7_take_1_f (s_X7_take_0_Z Z (upd f 52 ((f 52) + 1))) (s_X7_take_0_f Z (upd f 52 ((f 52) + 1)))))) 25) - 1) 0))) 54) + 1)) else upd (s_X7_sendOn_1_f (t_X7_tick_2_Z (s_X7_take_1_Z (s_X7_take_0_Z Z (upd f 52 ((f 52) + 1))) (s_X7_take_0_f Z (upd f 52 ((f 52) + 1)))) (t_X7_tick_1_f (s_X7_take_1_f (s_X7_take_0_Z Z (upd f 52 ((f 52) + 1))) (s_X7_take_0_f Z (upd f 52 ((f 52) + 1)))))) (upd (t_X7_tick_2_f (s_X7_take_1_Z (s_X7_take_0_Z Z (upd f 52 ((f 52) + 1))) (s_X7_take_0_f Z (upd f 52 ((f 52) + 1)))) (t_X7_tick_1_f (s_X7_take_1_f (s_X7_take_0_Z Z (upd f 52 ((f 52) + 1))) (s_X7_take_0_f Z (upd f 52 ((f 52) + 1)))))) 25 (r_X7_max (((t_X7_tick_2_f (s_X7_take_1_Z (s_X7_take_0_Z Z (upd f 52 ((f 52) + 1))) (s_X7_take_0_f Z (upd f 52 ((f 52) + 1)))) (t_X7_tick_1_f (s_X7_take_1_f (s_X7_take_0_Z Z (upd f 52 ((f 52) + 1))) (s_X7_take_0_f Z (upd f 52 ((f 52) + 1)))))) 25) - 1) 0))) 54 (((s_X7_sendOn_1_f (t_X7_tick_2_Z (s_X7_take_1_Z (s_X7_take_0_Z Z (upd f 52 ((f 52) + 1))) (s_X7_take_0_f Z (upd f 52 ((f 52) + 1)))) (t_X7_tick_1_f (s_X7_take_1_f (s_X7_take_0_Z Z (upd f 52 ((f 52) + 1))) (s_X7_take_0_f Z (upd f 52 ((f 52) + 1)))))) (upd (t_X7_tick_2_f (s_X7_take_1_Z (s_X7_take_0_Z Z (upd f 52 ((f 52) + 1))) (s_X7_take_0_f Z (upd f 52 ((f 52) + 1)))) (t_X7_tick_1_f (s_X7_take_1_f (s_X7_take_0_Z Z (upd f 52 ((f 52) + 1))) (s_X7_take_0_f Z (upd f 52 ((f 52) + 1)))))) 25 (r_X7_max (((t_X7_tick_2_f (s_X7_take_1_Z (s_X7_take_0_Z Z (upd f 52 ((f 52) + 1))) (s_X7_take_0_f Z (upd f 52 ((f 52) + 1)))) (t_X7_tick_1_f (s_X7_take_1_f (s_X7_take_0_Z Z (upd f 52 ((f 52) + 1))) (s_X7_take_0_f Z (upd f 52 ((f 52) + 1)))))) 25) - 1) 0))) 54) + 0)) else upd (s_X7_sendOn_1_f (t_X7_tick_2_Z (s_X7_take_1_Z (s_X7_take_0_Z Z (upd f 52 ((f 52) + 1))) (s_X7_take_0_f Z (upd f 52 ((f 52) + 1)))) (t_X7_tick_1_f (s_X7_take_1_f (s_X7_take_0_Z Z (upd f 52 ((f 52) + 1))) (s_X7_take_0_f Z (upd f 52 ((f 52) + 1)))))) (upd (t_X7_tick_2_f (s_X7_take_1_Z (s_X7_take_0_Z Z (upd f 52 ((f 52) + 1))) (s_X7_take_0_f Z (upd f 52 ((f 52) + 1)))) (t_X7_tick_1_f (s_X7_take_1_f (s_X7_take_0_Z Z (upd f 52 ((f 52) + 1))) (s_X7_take_0_f Z (upd f 52 ((f 52) + 1)))))) 25 (r_X7_max (((t_X7_tick_2_f (s_X7_take_1_Z (s_X7_take_0_Z Z (upd f 52 ((f 52) + 1))) (s_X7_take_0_f Z (upd f 52 ((f 52) + 1)))) (t_X7_tick_1_f (s_X7_take_1_f (s_X7_take_0_Z Z (upd f 52 ((f 52) + 1))) (s_X7_take_0_f Z (upd f 52 ((f 52) + 1)))))) 25) - 1) 0))) 54 (((s_X7_sendOn_1_f (t_X7_tick_2_Z (s_X7_take_1_Z (s_X7_take_0_Z Z (upd f 52 ((f 52) + 1))) (s_X7_take_0_f Z (upd f 52 ((f 52) + 1)))) (t_X7_tick_1_f (s_X7_take_1_f (s_X7_take_0_Z Z (upd f 52 ((f 52) + 1))) (s_X7_take_0_f Z (upd f 52 ((f 52) + 1)))))) (upd (t_X7_tick_2_f (s_X7_take_1_Z (s_X7_take_0_Z Z (upd f 52 ((f 52) + 1))) (s_X7_take_0_f Z (upd f 52 ((f 52) + 1)))) (t_X7_tick_1_f (s_X7_take_1_f (s_X7_take_0_Z Z (upd f 52 ((f 52) + 1))) (s_X7_take_0_f Z (upd f 52 ((f 52) + 1)))))) 25 (r_X7_max (((t_X7_tick_2_f (s_X7_take_1_Z (s_X7_take_0_Z Z (upd f 52 ((f 52) + 1))) (s_X7_take_0_f Z (upd f 52 ((f 52) + 1)))) (t_X7_tick_1_f (s_X7_take_1_f (s_X7_take_0_Z Z (upd f 52 ((f 52) + 1))) (s_X7_take_0_f Z (upd f 52 ((f 52) + 1)))))) 25) - 1) 0))) 54) + 0)) else if (r_X7_max (((t_X7_tick_2_f (s_X7_take_1_Z (s_X7_take_0_Z Z (upd f 52 ((f 52) + 1))) (s_X7_take_0_f Z (upd f 52 ((f 52) + 1)))) (t_X7_tick_1_f (s_X7_take_1_f (s_X7_take_0_Z Z (upd f 52 ((f 52) + 1))) (s_X7_take_0_f Z (upd f 52 ((f 52) + 1)))))) 25) - 1) 0) = 0 then (if (r_X7_isStill_16 (upd (t_X7_tick_2_f (s_X7_take_1_Z (s_X7_take_0_Z Z (upd f 52 ((f 52) + 1))) (s_X7_take_0_f Z (upd f 52 ((f 52) + 1)))) (t_X7_tick_1_f (s_X7_take_1_f (s_X7_take_0_Z Z (upd f 52 ((f 52) + 1))) (s_X7_take_0_f Z (upd f 52 ((f 52) + 1)))))) 25 (r_X7_max (((t_X7_tick_2_f (s_X7_take_1_Z (s_X7_take_0_Z Z (upd f 52 ((f 52) + 1))) (s_X7_take_0_f Z (upd f 52 ((f 52) + 1)))) (t_X7_tick_1_f (s_X7_take_1_f (s_X7_take_0_Z Z (upd f 52 ((f 52) + 1))) (s_X7_take_0_f Z (upd f 52 ((f 52) + 1)))))) 25) - 1) 0))) = 0 then (if (s_X7_sendOn_1_f (t_X7_tick_2_Z (s_X7_take_1_Z (s_X7_take_0_Z Z (upd f 52 ((f 52) + 1))) (s_X7_take_0_f Z (upd f 52 ((f 52) + 1)))) (t_X7_tick_1_f (s_X7_take_1_f (s_X7_take_0_Z Z (upd f 52 ((f 52) + 1))) (s_X7_take_0_f Z (upd f 52 ((f 52) + 1)))))) (upd (t_X7_tick_2_f (s_X7_take_1_Z (s_X7_take_0_Z Z (upd f 52 ((f 52) + 1))) (s_X7_take_0_f Z (upd f 52 ((f 52) + 1)))) (t_X7_tick_1_f (s_X7_take_1_f (s_X7_take_0_Z Z (upd f 52 ((f 52) + 1))) (s_X7_take_0_f Z (upd f 52 ((f 52) + 1)))))) 25 (r_X7_max (((t_X7_tick_2_f (s_X7_take_1_Z (s_X7_take_0_Z Z (upd f 52 ((f 52) + 1))) (s_X7_take_0_f Z (upd f 52 ((f 52) + 1)))) (t_X7_tick_1_f (s_X7_take_1_f (s_X7_take_0_Z Z (upd f 52 ((f 52) + 1))) (s_X7_take_0_f Z (upd f 52 ((f 52) + 1)))))) 25) - 1) 0))) 5 = 2 then (if (s_X7_sendOn_1_f (t_X7_tick_2_Z (s_X7_take_1_Z (s_X7_take_0_Z Z (upd f 52 ((f 52) + 1))) (s_X7_take_0_f Z (upd f 52 ((f 52) + 1)))) (t_X7_tick_1_f (s_X7_take_1_f (s_X7_take_0_Z Z (upd f 52 ((f 52) + 1))) (s_X7_take_0_f Z (upd f 52 ((f 52) + 1)))))) (upd (t_X7_tick_2_f (s_X7_take_1_Z (s_X7_take_0_Z Z (upd f 52 ((f 52) + 1))) (s_X7_take_0_f Z (upd f 52 ((f 52) + 1)))) (t_X7_tick_1_f (s_X7_take_1_f (s_X7_take_0_Z Z (upd f 52 ((f 52) + 1))) (s_X7_take_0_f Z (upd f 52 ((f 52) + 1)))))) 25 (r_X7_max (((t_X7_tick_2_f (s_X7_take_1_Z (s_X7_take_0_Z Z (upd f 52 ((f 52) + 1))) (s_X7_take_0_f Z (upd f 52 ((f 52) + 1)))) (t_X7_tick_1_f (s_X7_take_1_f (s_X7_take_0_Z Z (upd f 52 ((f 52) + 1))) (s_X7_take_0_f Z (upd f 52 ((f 52) + 1)))))) 25) - 1) 0))) 21 = 2 then (upd (s_X7_sendOn_1_f (t_X7_tick_2_Z (s_X7_take_1_Z (s_X7_take_0_Z Z (upd f 52 ((f 52) + 1))) (s_X7_take_0_f Z (upd f 52 ((f 52) + 1)))) (t_X7_tick_1_f (s_X7_take_1_f (s_X7_take_0_Z Z (upd f 52 ((f 52) + 1))) (s_X7_take_0_f Z (upd f 52 ((f 52) + 1)))))) (upd (t_X7_tick_2_f (s_X7_take_1_Z (s_X7_take_0_Z Z (upd f 52 ((f 52) + 1))) (s_X7_take_0_f Z (upd f 52 ((f 52) + 1)))) (t_X7_tick_1_f (s_X7_take_1_f (s_X7_take_0_Z Z (upd f 52 ((f 52) + 1))) (s_X7_take_0_f Z (upd f 52 ((f 52) + 1)))))) 25 (r_X7_max (((t_X7_tick_2_f (s_X7_take_1_Z (s_X7_take_0_Z Z (upd f 52 ((f 52) + 1))) (s_X7_take_0_f Z (upd f 52 ((f 52) + 1)))) (t_X7_tick_1_f (s_X7_take_1_f (s_X7_take_0_Z Z (upd f 52 ((f 52) + 1))) (s_X7_take_0_f Z (upd f 52 ((f 52) + 1)))))) 25) - 1) 0))) 54 (((s_X7_sendOn_1_f (t_X7_tick_2_Z (s_X7_take_1_Z (s_X7_take_0_Z Z (upd f 52 ((f 52) + 1))) (s_X7_take_0_f Z (upd f 52 ((f 52) + 1)))) (t_X7_tick_1_f (s_X7_take_1_f (s_X7_take_0_Z Z (upd f 52 ((f 52) + 1))) (s_X7_take_0_f Z (upd f 52 ((f 52) + 1)))))) (upd (t_X7_tick_2_f (s_X7_take_1_Z (s_X7_take_0_Z Z (upd f 52 ((f 52) + 1))) (s_X7_take_0_f Z (upd f 52 ((f 52) + 1)))) (t_X7_tick_1_f (s_X7_take_1_f (s_X7_take_0_Z Z (upd f 52 ((f 52) + 1))) (s_X7_take_0_f Z (upd f 52 ((f 52) + 1)))))) 25 (r_X7_max (((t_X7_tick_2_f (s_X7_take_1_Z (s_X7_take_0_Z Z (upd f 52 ((f 52) + 1))) (s_X7_take_0_f Z (upd f 52 ((f 52) + 1)))) (t_X7_tick_1_f (s_X7_take_1_f (s_X7_take_0_Z Z (upd f 52 ((f 52) + 1))) (s_X7_take_0_f Z (upd f 52 ((f 52) + 1)))))) 25) - 1) 0))) 54) + 1)) else upd (s_X7_sendOn_1_f (t_X7_tick_2_Z (s_X7_take_1_Z (s_X7_take_0_Z Z (upd f 52 ((f 52) + 1))) (s_X7_take_0_f Z (upd f 52 ((f 52) + 1)))) (t_X7_tick_1_f (s_X7_take_1_f (s_X7_take_0_Z Z (upd f 52 ((f 52) + 1))) (s_X7_take_0_f Z (upd f 52 ((f 52) + 1)))))) (upd (t_X7_tick_2_f (s_X7_take_1_Z (s_X7_take_0_Z Z (upd f 52 ((f 52) + 1))) (s_X7_take_0_f Z (upd f 52 ((f 52) + 1)))) (t_X7_tick_1_f (s_X7_take_1_f (s_X7_take_0_Z Z (upd f 52 ((f 52) + 1))) (s_X7_take_0_f Z (upd f 52 ((f 52) + 1)))))) 25 (r_X7_max (((t_X7_tick_2_f (s_X7_take_1_Z (s_X7_take_0_Z Z (upd f 52 ((f 52) + 1))) (s_X7_take_0_f Z (upd f 52 ((f 52) + 1)))) (t_X7_tick_1_f (s_X7_take_1_f (s_X7_take_0_Z Z (upd f 52 ((f 52) + 1))) (s_X7_take_0_f Z (upd f 52 ((f 52) + 1)))))) 25) - 1) 0))) 54 (((s_X7_sendOn_1_f (t_X7_tick_2_Z (s_X7_take_1_Z (s_X7_take_0_Z Z (upd f 52 ((f 52) + 1))) (s_X7_take_0_f Z (upd f 52 ((f 52) + 1)))) (t_X7_tick_1_f (s_X7_take_1_f (s_X7_take_0_Z Z (upd f 52 ((f 52) + 1))) (s_X7_take_0_f Z (upd f 52 ((f 52) + 1)))))) (upd (t_X7_tick_2_f (s_X7_take_1_Z (s_X7_take_0_Z Z (upd f 52 ((f 52) + 1))) (s_X7_take_0_f Z (upd f 52 ((f 52) + 1)))) (t_X7_tick_1_f (s_X7_take_1_f (s_X7_take_0_Z Z (upd f 52 ((f 52) + 1))) (s_X7_take_0_f Z (upd f 52 ((f 52) + 1)))))) 25 (r_X7_max (((t_X7_tick_2_f (s_X7_take_1_Z (s_X7_take_0_Z Z (upd f 52 ((f 52) + 1))) (s_X7_take_0_f Z (upd f 52 ((f 52) + 1)))) (t_X7_tick_1_f (s_X7_take_1_f (s_X7_take_0_Z Z (upd f 52 ((f 52) + 1))) (s_X7_take_0_f Z (upd f 52 ((f 52) + 1)))))) 25) - 1) 0))) 54) + 0)) else upd (s_X7_sendOn_1_f (t_X7_tick_2_Z (s_X7_take_1_Z (s_X7_take_0_Z Z (upd f 52 ((f 52) + 1))) (s_X7_take_0_f Z (upd f 52 ((f 52) + 1)))) (t_X7_tick_1_f (s_X7_take_1_f (s_X7_take_0_Z Z (upd f 52 ((f 52) + 1))) (s_X7_take_0_f Z (upd f 52 ((f 52) + 1)))))) (upd (t_X7_tick_2_f (s_X7_take_1_Z (s_X7_take_0_Z Z (upd f 52 ((f 52) + 1))) (s_X7_take_0_f Z (upd f 52 ((f 52) + 1)))) (t_X7_tick_1_f (s_X7_take_1_f (s_X7_take_0_Z Z (upd f 52 ((f 52) + 1))) (s_X7_take_0_f Z (upd f 52 ((f 52) + 1)))))) 25 (r_X7_max (((t_X7_tick_2_f (s_X7_take_1_Z (s_X7_take_0_Z Z (upd f 52 ((f 52) + 1))) (s_X7_take_0_f Z (upd f 52 ((f 52) + 1)))) (t_X7_tick_1_f (s_X7_take_1_f (s_X7_take_0_Z Z (upd f 52 ((f 52) + 1))) (s_X7_take_0_f Z (upd f 52 ((f 52) + 1)))))) 25) - 1) 0))) 54 (((s_X7_sendOn_1_f (t_X7_tick_2_Z (s_X7_take_1_Z (s_X7_take_0_Z Z (upd f 52 ((f 52) + 1))) (s_X7_take_0_f Z (upd f 52 ((f 52) + 1)))) (t_X7_tick_1_f (s_X7_take_1_f (s_X7_take_0_Z Z (upd f 52 ((f 52) + 1))) (s_X7_take_0_f Z (upd f 52 ((f 52) + 1)))))) (upd (t_X7_tick_2_f (s_X7_take_1_Z (s_X7_take_0_Z Z (upd f 52 ((f 52) + 1))) (s_X7_take_0_f Z (upd f 52 ((f 52) + 1)))) (t_X7_tick_1_f (s_X7_take_1_f (s_X7_take_0_Z Z (upd f 52 ((f 52) + 1))) (s_X7_take_0_f Z (upd f 52 ((f 52) + 1)))))) 25 (r_X7_max (((t_X7_tick_2_f (s_X7_take_1_Z (s_X7_take_0_Z Z (upd f 52 ((f 52) + 1))) (s_X7_take_0_f Z (upd f 52 ((f 52) + 1)))) (t_X7_tick_1_f (s_X7_take_1_f (s_X7_take_0_Z Z (upd f 52 ((f 52) + 1))) (s_X7_take_0_f Z (upd f 52 ((f 52) + 1)))))) 25) - 1) 0))) 54) + 0)) else if (t_X7_tick_2_f (s_X7_take_1_Z (s_X7_take_0_Z Z (upd f 52 ((f 52) + 1))) (s_X7_take_0_f Z (upd f 52 ((f 52) + 1)))) (t_X7_tick_1_f (s_X7_take_1_f (s_X7_take_0_Z Z (upd f 52 ((f 52) + 1))) (s_X7_take_0_f Z (upd f 52 ((f 52) + 1)))))) 5 = 2 then (if (t_X7_tick_2_f (s_X7_take_1_Z (s_X7_take_0_Z Z (upd f 52 ((f 52) + 1))) (s_X7_take_0_f Z (upd f 52 ((f 52) + 1)))) (t_X7_tick_1_f (s_X7_take_1_f (s_X7_take_0_Z Z (upd f 52 ((f 52) + 1))) (s_X7_take_0_f Z (upd f 52 ((f 52) + 1)))))) 21 = 2 then (upd (upd (t_X7_tick_2_f (s_X7_take_1_Z (s_X7_take_0_Z Z (upd f 52 ((f 52) + 1))) (s_X7_take_0_f Z (upd f 52 ((f 52) + 1)))) (t_X7_tick_1_f (s_X7_take_1_f (s_X7_take_0_Z Z (upd f 52 ((f 52) + 1))) (s_X7_take_0_f Z (upd f 52 ((f 52) + 1)))))) 25 (r_X7_max (((t_X7_tick_2_f (s_X7_take_1_Z (s_X7_take_0_Z Z (upd f 52 ((f 52) + 1))) (s_X7_take_0_f Z (upd f 52 ((f 52) + 1)))) (t_X7_tick_1_f (s_X7_take_1_f (s_X7_take_0_Z Z (upd f 52 ((f 52) + 1))) (s_X7_take_0_f Z (upd f 52 ((f 52) + 1)))))) 25) - 1) 0)) 54 (((t_X7_tick_2_f (s_X7_take_1_Z (s_X7_take_0_Z Z (upd f 52 ((f 52) + 1))) (s_X7_take_0_f Z (upd f 52 ((f 52) + 1)))) (t_X7_tick_1_f (s_X7_take_1_f (s_X7_take_0_Z Z (upd f 52 ((f 52) + 1))) (s_X7_take_0_f Z (upd f 52 ((f 52) + 1)))))) 54) + 1)) else upd (upd (t_X7_tick_2_f (s_X7_take_1_Z (s_X7_take_0_Z Z (upd f 52 ((f 52) + 1))) (s_X7_take_0_f Z (upd f 52 ((f 52) + 1)))) (t_X7_tick_1_f (s_X7_take_1_f (s_X7_take_0_Z Z (upd f 52 ((f 52) + 1))) (s_X7_take_0_f Z (upd f 52 ((f 52) + 1)))))) 25 (r_X7_max (((t_X7_tick_2_f (s_X7_take_1_Z (s_X7_take_0_Z Z (upd f 52 ((f 52) + 1))) (s_X7_take_0_f Z (upd f 52 ((f 52) + 1)))) (t_X7_tick_1_f (s_X7_take_1_f (s_X7_take_0_Z Z (upd f 52 ((f 52) + 1))) (s_X7_take_0_f Z (upd f 52 ((f 52) + 1)))))) 25) - 1) 0)) 54 (((t_X7_tick_2_f (s_X7_take_1_Z (s_X7_take_0_Z Z (upd f 52 ((f 52) + 1))) (s_X7_take_0_f Z (upd f 52 ((f 52) + 1)))) (t_X7_tick_1_f (s_X7_take_1_f (s_X7_take_0_Z Z (upd f 52 ((f 52) + 1))) (s_X7_take_0_f Z (upd f 52 ((f 52) + 1)))))) 54) + 0)) else upd (upd (t_X7_tick_2_f (s_X7_take_1_Z (s_X7_take_0_Z Z (upd f 52 ((f 52) + 1))) (s_X7_take_0_f Z (upd f 52 ((f 52) + 1)))) (t_X7_tick_1_f (s_X7_take_1_f (s_X7_take_0_Z Z (upd f 52 ((f 52) + 1))) (s_X7_take_0_f Z (upd f 52 ((f 52) + 1)))))) 25 (r_X7_max (((t_X7_tick_2_f (s_X7_take_1_Z (s_X7_take_0_Z Z (upd f 52 ((f 52) + 1))) (s_X7_take_0_f Z (upd f 52 ((f 52) + 1)))) (t_X7_tick_1_f (s_X7_take_1_f (s_X7_take_0_Z Z (upd f 52 ((f 52) + 1))) (s_X7_take_0_f Z (upd f 52 ((f 52) + 1)))))) 25) - 1) 0)) 54 (((t_X7_tick_2_f (s_X7_take_1_Z (s_X7_take_0_Z Z (upd f 52 ((f 52) + 1))) (s_X7_take_0_f Z (upd f 52 ((f 52) + 1)))) (t_X7_tick_1_f (s_X7_take_1_f (s_X7_take_0_Z Z (upd f 52 ((f 52) + 1))) (s_X7_take_0_f Z (upd f 52 ((f 52) + 1)))))) 54) + 0)) else if (t_X7_tick_2_f (s_X7_take_1_Z (s_X7_take_0_Z Z (upd f 52 ((f 52) + 1))) (s_X7_take_0_f Z (upd f 52 ((f 52) + 1)))) (t_X7_tick_1_f (s_X7_take_1_f (s_X7_take_0_Z Z (upd f 52 ((f 52) + 1))) (s_X7_take_0_f Z (upd f 52 ((f 52) + 1)))))) 5 = 2 then (if (t_X7_tick_2_f (s_X7_take_1_Z (s_X7_take_0_Z Z (upd f 52 ((f 52) + 1))) (s_X7_take_0_f Z (upd f 52 ((f 52) + 1)))) (t_X7_tick_1_f (s_X7_take_1_f (s_X7_take_0_Z Z (upd f 52 ((f 52) + 1))) (s_X7_take_0_f Z (upd f 52 ((f 52) + 1)))))) 21 = 2 then (upd (upd (t_X7_tick_2_f (s_X7_take_1_Z (s_X7_take_0_Z Z (upd f 52 ((f 52) + 1))) (s_X7_take_0_f Z (upd f 52 ((f 52) + 1)))) (t_X7_tick_1_f (s_X7_take_1_f (s_X7_take_0_Z Z (upd f 52 ((f 52) + 1))) (s_X7_take_0_f Z (upd f 52 ((f 52) + 1)))))) 25 (r_X7_max (((t_X7_tick_2_f (s_X7_take_1_Z (s_X7_take_0_Z Z (upd f 52 ((f 52) + 1))) (s_X7_take_0_f Z (upd f 52 ((f 52) + 1)))) (t_X7_tick_1_f (s_X7_take_1_f (s_X7_take_0_Z Z (upd f 52 ((f 52) + 1))) (s_X7_take_0_f Z (upd f 52 ((f 52) + 1)))))) 25) - 1) 0)) 54 (((t_X7_tick_2_f (s_X7_take_1_Z (s_X7_take_0_Z Z (upd f 52 ((f 52) + 1))) (s_X7_take_0_f Z (upd f 52 ((f 52) + 1)))) (t_X7_tick_1_f (s_X7_take_1_f (s_X7_take_0_Z Z (upd f 52 ((f 52) + 1))) (s_X7_take_0_f Z (upd f 52 ((f 52) + 1)))))) 54) + 1)) else upd (upd (t_X7_tick_2_f (s_X7_take_1_Z (s_X7_take_0_Z Z (upd f 52 ((f 52) + 1))) (s_X7_take_0_f Z (upd f 52 ((f 52) + 1)))) (t_X7_tick_1_f (s_X7_take_1_f (s_X7_take_0_Z Z (upd f 52 ((f 52) + 1))) (s_X7_take_0_f Z (upd f 52 ((f 52) + 1)))))) 25 (r_X7_max (((t_X7_tick_2_f (s_X7_take_1_Z (s_X7_take_0_Z Z (upd f 52 ((f 52) + 1))) (s_X7_take_0_f Z (upd f 52 ((f 52) + 1)))) (t_X7_tick_1_f (s_X7_take_1_f (s_X7_take_0_Z Z (upd f 52 ((f 52) + 1))) (s_X7_take_0_f Z (upd f 52 ((f 52) + 1)))))) 25) - 1) 0)) 54 (((t_X7_tick_2_f (s_X7_take_1_Z (s_X7_take_0_Z Z (upd f 52 ((f 52) + 1))) (s_X7_take_0_f Z (upd f 52 ((f 52) + 1)))) (t_X7_tick_1_f (s_X7_take_1_f (s_X7_take_0_Z Z (upd f 52 ((f 52) + 1))) (s_X7_take_0_f Z (upd f 52 ((f 52) + 1)))))) 54) + 0)) else upd (upd (t_X7_tick_2_f (s_X7_take_1_Z (s_X7_take_0_Z Z (upd f 52 ((f 52) + 1))) (s_X7_take_0_f Z (upd f 52 ((f 52) + 1)))) (t_X7_tick_1_f (s_X7_take_1_f (s_X7_take_0_Z Z (upd f 52 ((f 52) + 1))) (s_X7_take_0_f Z (upd f 52 ((f 52) + 1)))))) 25 (r_X7_max (((t_X7_tick_2_f (s_X7_take_1_Z (s_X7_take_0_Z Z (upd f 52 ((f 52) + 1))) (s_X7_take_0_f Z (upd f 52 ((f 52) + 1)))) (t_X7_tick_1_f (s_X7_take_1_f (s_X7_take_0_Z Z (upd f 52 ((f 52) + 1))) (s_X7_take_0_f Z (upd f 52 ((f 52) + 1)))))) 25) - 1) 0)) 54 (((t_X7_tick_2_f (s_X7_take_1_Z (s_X7_take_0_Z Z (upd f 52 ((f 52) + 1))) (s_X7_take_0_f Z (upd f 52 ((f 52) + 1)))) (t_X7_tick_1_f (s_X7_take_1_f (s_X7_take_0_Z Z (upd f 52 ((f 52) + 1))) (s_X7_take_0_f Z (upd f 52 ((f 52) + 1)))))) 54) + 0)) else if (r_X7_trusts_16 (t_X7_tick_1_f (s_X7_take_1_f (s_X7_take_0_Z Z (upd f 52 ((f 52) + 1))) (s_X7_take_0_f Z (upd f 52 ((f 52) + 1)))))) = 0 then (if (t_X7_tick_1_f (s_X7_take_1_f (s_X7_take_0_Z Z (upd f 52 ((f 52) + 1))) (s_X7_take_0_f Z (upd f 52 ((f 52) + 1))))) 24 < (r_X7_limitOn_16 (t_X7_tick_1_f (s_X7_take_1_f (s_X7_take_0_Z Z (upd f 52 ((f 52) + 1))) (s_X7_take_0_f Z (upd f 52 ((f 52) + 1)))))) then (if (t_X7_tick_4_f (s_X7_take_1_Z (s_X7_take_0_Z Z (upd f 52 ((f 52) + 1))) (s_X7_take_0_f Z (upd f 52 ((f 52) + 1)))) (t_X7_tick_1_f (s_X7_take_1_f (s_X7_take_0_Z Z (upd f 52 ((f 52) + 1))) (s_X7_take_0_f Z (upd f 52 ((f 52) + 1)))))) 26 = 1 then (if (s_X7_sendOn_1_f (t_X7_tick_4_Z (s_X7_take_1_Z (s_X7_take_0_Z Z (upd f 52 ((f 52) + 1))) (s_X7_take_0_f Z (upd f 52 ((f 52) + 1)))) (t_X7_tick_1_f (s_X7_take_1_f (s_X7_take_0_Z Z (upd f 52 ((f 52) + 1))) (s_X7_take_0_f Z (upd f 52 ((f 52) + 1)))))) (upd (t_X7_tick_4_f (s_X7_take_1_Z (s_X7_take_0_Z Z (upd f 52 ((f 52) + 1))) (s_X7_take_0_f Z (upd f 52 ((f 52) + 1)))) (t_X7_tick_1_f (s_X7_take_1_f (s_X7_take_0_Z Z (upd f 52 ((f 52) + 1))) (s_X7_take_0_f Z (upd f 52 ((f 52) + 1)))))) 25 (r_X7_max (((t_X7_tick_4_f (s_X7_take_1_Z (s_X7_take_0_Z Z (upd f 52 ((f 52) + 1))) (s_X7_take_0_f Z (upd f 52 ((f 52) + 1)))) (t_X7_tick_1_f (s_X7_take_1_f (s_X7_take_0_Z Z (upd f 52 ((f 52) + 1))) (s_X7_take_0_f Z (upd f 52 ((f 52) + 1)))))) 25) - 1) 0))) 5 = 2 then (if (s_X7_sendOn_1_f (t_X7_tick_4_Z (s_X7_take_1_Z (s_X7_take_0_Z Z (upd f 52 ((f 52) + 1))) (s_X7_take_0_f Z (upd f 52 ((f 52) + 1)))) (t_X7_tick_1_f (s_X7_take_1_f (s_X7_take_0_Z Z (upd f 52 ((f 52) + 1))) (s_X7_take_0_f Z (upd f 52 ((f 52) + 1)))))) (upd (t_X7_tick_4_f (s_X7_take_1_Z (s_X7_take_0_Z Z (upd f 52 ((f 52) + 1))) (s_X7_take_0_f Z (upd f 52 ((f 52) + 1)))) (t_X7_tick_1_f (s_X7_take_1_f (s_X7_take_0_Z Z (upd f 52 ((f 52) + 1))) (s_X7_take_0_f Z (upd f 52 ((f 52) + 1)))))) 25 (r_X7_max (((t_X7_tick_4_f (s_X7_take_1_Z (s_X7_take_0_Z Z (upd f 52 ((f 52) + 1))) (s_X7_take_0_f Z (upd f 52 ((f 52) + 1)))) (t_X7_tick_1_f (s_X7_take_1_f (s_X7_take_0_Z Z (upd f 52 ((f 52) + 1))) (s_X7_take_0_f Z (upd f 52 ((f 52) + 1)))))) 25) - 1) 0))) 21 = 2 then (upd (s_X7_sendOn_1_f (t_X7_tick_4_Z (s_X7_take_1_Z (s_X7_take_0_Z Z (upd f 52 ((f 52) + 1))) (s_X7_take_0_f Z (upd f 52 ((f 52) + 1)))) (t_X7_tick_1_f (s_X7_take_1_f (s_X7_take_0_Z Z (upd f 52 ((f 52) + 1))) (s_X7_take_0_f Z (upd f 52 ((f 52) + 1)))))) (upd (t_X7_tick_4_f (s_X7_take_1_Z (s_X7_take_0_Z Z (upd f 52 ((f 52) + 1))) (s_X7_take_0_f Z (upd f 52 ((f 52) + 1)))) (t_X7_tick_1_f (s_X7_take_1_f (s_X7_take_0_Z Z (upd f 52 ((f 52) + 1))) (s_X7_take_0_f Z (upd f 52 ((f 52) + 1)))))) 25 (r_X7_max (((t_X7_tick_4_f (s_X7_take_1_Z (s_X7_take_0_Z Z (upd f 52 ((f 52) + 1))) (s_X7_take_0_f Z (upd f 52 ((f 52) + 1)))) (t_X7_tick_1_f (s_X7_take_1_f (s_X7_take_0_Z Z (upd f 52 ((f 52) + 1))) (s_X7_take_0_f Z (upd f 52 ((f 52) + 1)))))) 25) - 1) 0))) 54 (((s_X7_sendOn_1_f (t_X7_tick_4_Z (s_X7_take_1_Z (s_X7_take_0_Z Z (upd f 52 ((f 52) + 1))) (s_X7_take_0_f Z (upd f 52 ((f 52) + 1)))) (t_X7_tick_1_f (s_X7_take_1_f (s_X7_take_0_Z Z (upd f 52 ((f 52) + 1))) (s_X7_take_0_f Z (upd f 52 ((f 52) + 1)))))) (upd (t_X7_tick_4_f (s_X7_take_1_Z (s_X7_take_0_Z Z (upd f 52 ((f 52) + 1))) (s_X7_take_0_f Z (upd f 52 ((f 52) + 1)))) (t_X7_tick_1_f (s_X7_take_1_f (s_X7_take_0_Z Z (upd f 52 ((f 52) + 1))) (s_X7_take_0_f Z (upd f 52 ((f 52) + 1)))))) 25 (r_X7_max (((t_X7_tick_4_f (s_X7_take_1_Z (s_X7_take_0_Z Z (upd f 52 ((f 52) + 1))) (s_X7_take_0_f Z (upd f 52 ((f 52) + 1)))) (t_X7_tick_1_f (s_X7_take_1_f (s_X7_take_0_Z Z (upd f 52 ((f 52) + 1))) (s_X7_take_0_f Z (upd f 52 ((f 52) + 1)))))) 25) - 1) 0))) 54) + 1)) else upd (s_X7_sendOn_1_f (t_X7_tick_4_Z (s_X7_take_1_Z (s_X7_take_0_Z Z (upd f 52 ((f 52) + 1))) (s_X7_take_0_f Z (upd f 52 ((f 52) + 1)))) (t_X7_tick_1_f (s_X7_take_1_f (s_X7_take_0_Z Z (upd f 52 ((f 52) + 1))) (s_X7_take_0_f Z (upd f 52 ((f 52) + 1)))))) (upd (t_X7_tick_4_f (s_X7_take_1_Z (s_X7_take_0_Z Z (upd f 52 ((f 52) + 1))) (s_X7_take_0_f Z (upd f 52 ((f 52) + 1)))) (t_X7_tick_1_f (s_X7_take_1_f (s_X7_take_0_Z Z (upd f 52 ((f 52) + 1))) (s_X7_take_0_f Z (upd f 52 ((f 52) + 1)))))) 25 (r_X7_max (((t_X7_tick_4_f (s_X7_take_1_Z (s_X7_take_0_Z Z (upd f 52 ((f 52) + 1))) (s_X7_take_0_f Z (upd f 52 ((f 52) + 1)))) (t_X7_tick_1_f (s_X7_take_1_f (s_X7_take_0_Z Z (upd f 52 ((f 52) + 1))) (s_X7_take_0_f Z (upd f 52 ((f 52) + 1)))))) 25) - 1) 0))) 54 (((s_X7_sendOn_1_f (t_X7_tick_4_Z (s_X7_take_1_Z (s_X7_take_0_Z Z (upd f 52 ((f 52) + 1))) (s_X7_take_0_f Z (upd f 52 ((f 52) + 1)))) (t_X7_tick_1_f (s_X7_take_1_f (s_X7_take_0_Z Z (upd f 52 ((f 52) + 1))) (s_X7_take_0_f Z (upd f 52 ((f 52) + 1)))))) (upd (t_X7_tick_4_f (s_X7_take_1_Z (s_X7_take_0_Z Z (upd f 52 ((f 52) + 1))) (s_X7_take_0_f Z (upd f 52 ((f 52) + 1)))) (t_X7_tick_1_f (s_X7_take_1_f (s_X7_take_0_Z Z (upd f 52 ((f 52) + 1))) (s_X7_take_0_f Z (upd f 52 ((f 52) + 1)))))) 25 (r_X7_max (((t_X7_tick_4_f (s_X7_take_1_Z (s_X7_take_0_Z Z (upd f 52 ((f 52) + 1))) (s_X7_take_0_f Z (upd f 52 ((f 52) + 1)))) (t_X7_tick_1_f (s_X7_take_1_f (s_X7_take_0_Z Z (upd f 52 ((f 52) + 1))) (s_X7_take_0_f Z (upd f 52 ((f 52) + 1)))))) 25) - 1) 0))) 54) + 0)) else upd (s_X7_sendOn_1_f (t_X7_tick_4_Z (s_X7_take_1_Z (s_X7_take_0_Z Z (upd f 52 ((f 52) + 1))) (s_X7_take_0_f Z (upd f 52 ((f 52) + 1)))) (t_X7_tick_1_f (s_X7_take_1_f (s_X7_take_0_Z Z (upd f 52 ((f 52) + 1))) (s_X7_take_0_f Z (upd f 52 ((f 52) + 1)))))) (upd (t_X7_tick_4_f (s_X7_take_1_Z (s_X7_take_0_Z Z (upd f 52 ((f 52) + 1))) (s_X7_take_0_f Z (upd f 52 ((f 52) + 1)))) (t_X7_tick_1_f (s_X7_take_1_f (s_X7_take_0_Z Z (upd f 52 ((f 52) + 1))) (s_X7_take_0_f Z (upd f 52 ((f 52) + 1)))))) 25 (r_X7_max (((t_X7_tick_4_f (s_X7_take_1_Z (s_X7_take_0_Z Z (upd f 52 ((f 52) + 1))) (s_X7_take_0_f Z (upd f 52 ((f 52) + 1)))) (t_X7_tick_1_f (s_X7_take_1_f (s_X7_take_0_Z Z (upd f 52 ((f 52) + 1))) (s_X7_take_0_f Z (upd f 52 ((f 52) + 1)))))) 25) - 1) 0))) 54 (((s_X7_sendOn_1_f (t_X7_tick_4_Z (s_X7_take_1_Z (s_X7_take_0_Z Z (upd f 52 ((f 52) + 1))) (s_X7_take_0_f Z (upd f 52 ((f 52) + 1)))) (t_X7_tick_1_f (s_X7_take_1_f (s_X7_take_0_Z Z (upd f 52 ((f 52) + 1))) (s_X7_take_0_f Z (upd f 52 ((f 52) + 1)))))) (upd (t_X7_tick_4_f (s_X7_take_1_Z (s_X7_take_0_Z Z (upd f 52 ((f 52) + 1))) (s_X7_take_0_f Z (upd f 52 ((f 52) + 1)))) (t_X7_tick_1_f (s_X7_take_1_f (s_X7_take_0_Z Z (upd f 52 ((f 52) + 1))) (s_X7_take_0_f Z (upd f 52 ((f 52) + 1)))))) 25 (r_X7_max (((t_X7_tick_4_f (s_X7_take_1_Z (s_X7_take_0_Z Z (upd f 52 ((f 52) + 1))) (s_X7_take_0_f Z (upd f 52 ((f 52) + 1)))) (t_X7_tick_1_f (s_X7_take_1_f (s_X7_take_0_Z Z (upd f 52 ((f 52) + 1))) (s_X7_take_0_f Z (upd f 52 ((f 52) + 1)))))) 25) - 1) 0))) 54) + 0)) else if (r_X7_max (((t_X7_tick_4_f (s_X7_take_1_Z (s_X7_take_0_Z Z (upd f 52 ((f 52) + 1))) (s_X7_take_0_f Z (upd f 52 ((f 52) + 1)))) (t_X7_tick_1_f (s_X7_take_1_f (s_X7_take_0_Z Z (upd f 52 ((f 52) + 1))) (s_X7_take_0_f Z (upd f 52 ((f 52) + 1)))))) 25) - 1) 0) = 0 then (if (r_X7_isStill_16 (upd (t_X7_tick_4_f (s_X7_take_1_Z (s_X7_take_0_Z Z (upd f 52 ((f 52) + 1))) (s_X7_take_0_f Z (upd f 52 ((f 52) + 1)))) (t_X7_tick_1_f (s_X7_take_1_f (s_X7_take_0_Z Z (upd f 52 ((f 52) + 1))) (s_X7_take_0_f Z (upd f 52 ((f 52) + 1)))))) 25 (r_X7_max (((t_X7_tick_4_f (s_X7_take_1_Z (s_X7_take_0_Z Z (upd f 52 ((f 52) + 1))) (s_X7_take_0_f Z (upd f 52 ((f 52) + 1)))) (t_X7_tick_1_f (s_X7_take_1_f (s_X7_take_0_Z Z (upd f 52 ((f 52) + 1))) (s_X7_take_0_f Z (upd f 52 ((f 52) + 1)))))) 25) - 1) 0))) = 0 then (if (s_X7_sendOn_1_f (t_X7_tick_4_Z (s_X7_take_1_Z (s_X7_take_0_Z Z (upd f 52 ((f 52) + 1))) (s_X7_take_0_f Z (upd f 52 ((f 52) + 1)))) (t_X7_tick_1_f (s_X7_take_1_f (s_X7_take_0_Z Z (upd f 52 ((f 52) + 1))) (s_X7_take_0_f Z (upd f 52 ((f 52) + 1)))))) (upd (t_X7_tick_4_f (s_X7_take_1_Z (s_X7_take_0_Z Z (upd f 52 ((f 52) + 1))) (s_X7_take_0_f Z (upd f 52 ((f 52) + 1)))) (t_X7_tick_1_f (s_X7_take_1_f (s_X7_take_0_Z Z (upd f 52 ((f 52) + 1))) (s_X7_take_0_f Z (upd f 52 ((f 52) + 1)))))) 25 (r_X7_max (((t_X7_tick_4_f (s_X7_take_1_Z (s_X7_take_0_Z Z (upd f 52 ((f 52) + 1))) (s_X7_take_0_f Z (upd f 52 ((f 52) + 1)))) (t_X7_tick_1_f (s_X7_take_1_f (s_X7_take_0_Z Z (upd f 52 ((f 52) + 1))) (s_X7_take_0_f Z (upd f 52 ((f 52) + 1)))))) 25) - 1) 0))) 5 = 2 then (if (s_X7_sendOn_1_f (t_X7_tick_4_Z (s_X7_take_1_Z (s_X7_take_0_Z Z (upd f 52 ((f 52) + 1))) (s_X7_take_0_f Z (upd f 52 ((f 52) + 1)))) (t_X7_tick_1_f (s_X7_take_1_f (s_X7_take_0_Z Z (upd f 52 ((f 52) + 1))) (s_X7_take_0_f Z (upd f 52 ((f 52) + 1)))))) (upd (t_X7_tick_4_f (s_X7_take_1_Z (s_X7_take_0_Z Z (upd f 52 ((f 52) + 1))) (s_X7_take_0_f Z (upd f 52 ((f 52) + 1)))) (t_X7_tick_1_f (s_X7_take_1_f (s_X7_take_0_Z Z (upd f 52 ((f 52) + 1))) (s_X7_take_0_f Z (upd f 52 ((f 52) + 1)))))) 25 (r_X7_max (((t_X7_tick_4_f (s_X7_take_1_Z (s_X7_take_0_Z Z (upd f 52 ((f 52) + 1))) (s_X7_take_0_f Z (upd f 52 ((f 52) + 1)))) (t_X7_tick_1_f (s_X7_take_1_f (s_X7_take_0_Z Z (upd f 52 ((f 52) + 1))) (s_X7_take_0_f Z (upd f 52 ((f 52) + 1)))))) 25) - 1) 0))) 21 = 2 then (upd (s_X7_sendOn_1_f (t_X7_tick_4_Z (s_X7_take_1_Z (s_X7_take_0_Z Z (upd f 52 ((f 52) + 1))) (s_X7_take_0_f Z (upd f 52 ((f 52) + 1)))) (t_X7_tick_1_f (s_X7_take_1_f (s_X7_take_0_Z Z (upd f 52 ((f 52) + 1))) (s_X7_take_0_f Z (upd f 52 ((f 52) + 1)))))) (upd (t_X7_tick_4_f (s_X7_take_1_Z (s_X7_take_0_Z Z (upd f 52 ((f 52) + 1))) (s_X7_take_0_f Z (upd f 52 ((f 52) + 1)))) (t_X7_tick_1_f (s_X7_take_1_f (s_X7_take_0_Z Z (upd f 52 ((f 52) + 1))) (s_X7_take_0_f Z (upd f 52 ((f 52) + 1)))))) 25 (r_X7_max (((t_X7_tick_4_f (s_X7_take_1_Z (s_X7_take_0_Z Z (upd f 52 ((f 52) + 1))) (s_X7_take_0_f Z (upd f 52 ((f 52) + 1)))) (t_X7_tick_1_f (s_X7_take_1_f (s_X7_take_0_Z Z (upd f 52 ((f 52) + 1))) (s_X7_take_0_f Z (upd f 52 ((f 52) + 1)))))) 25) - 1) 0))) 54 (((s_X7_sendOn_1_f (t_X7_tick_4_Z (s_X7_take_1_Z (s_X7_take_0_Z Z (upd f 52 ((f 52) + 1))) (s_X7_take_0_f Z (upd f 52 ((f 52) + 1)))) (t_X7_tick_1_f (s_X7_take_1_f (s_X7_take_0_Z Z (upd f 52 ((f 52) + 1))) (s_X7_take_0_f Z (upd f 52 ((f 52) + 1)))))) (upd (t_X7_tick_4_f (s_X7_take_1_Z (s_X7_take_0_Z Z (upd f 52 ((f 52) + 1))) (s_X7_take_0_f Z (upd f 52 ((f 52) + 1)))) (t_X7_tick_1_f (s_X7_take_1_f (s_X7_take_0_Z Z (upd f 52 ((f 52) + 1))) (s_X7_take_0_f Z (upd f 52 ((f 52) + 1)))))) 25 (r_X7_max (((t_X7_tick_4_f (s_X7_take_1_Z (s_X7_take_0_Z Z (upd f 52 ((f 52) + 1))) (s_X7_take_0_f Z (upd f 52 ((f 52) + 1)))) (t_X7_tick_1_f (s_X7_take_1_f (s_X7_take_0_Z Z (upd f 52 ((f 52) + 1))) (s_X7_take_0_f Z (upd f 52 ((f 52) + 1)))))) 25) - 1) 0))) 54) + 1)) else upd (s_X7_sendOn_1_f (t_X7_tick_4_Z (s_X7_take_1_Z (s_X7_take_0_Z Z (upd f 52 ((f 52) + 1))) (s_X7_take_0_f Z (upd f 52 ((f 52) + 1)))) (t_X7_tick_1_f (s_X7_take_1_f (s_X7_take_0_Z Z (upd f 52 ((f 52) + 1))) (s_X7_take_0_f Z (upd f 52 ((f 52) + 1)))))) (upd (t_X7_tick_4_f (s_X7_take_1_Z (s_X7_take_0_Z Z (upd f 52 ((f 52) + 1))) (s_X7_take_0_f Z (upd f 52 ((f 52) + 1)))) (t_X7_tick_1_f (s_X7_take_1_f (s_X7_take_0_Z Z (upd f 52 ((f 52) + 1))) (s_X7_take_0_f Z (upd f 52 ((f 52) + 1)))))) 25 (r_X7_max (((t_X7_tick_4_f (s_X7_take_1_Z (s_X7_take_0_Z Z (upd f 52 ((f 52) + 1))) (s_X7_take_0_f Z (upd f 52 ((f 52) + 1)))) (t_X7_tick_1_f (s_X7_take_1_f (s_X7_take_0_Z Z (upd f 52 ((f 52) + 1))) (s_X7_take_0_f Z (upd f 52 ((f 52) + 1)))))) 25) - 1) 0))) 54 (((s_X7_sendOn_1_f (t_X7_tick_4_Z (s_X7_take_1_Z (s_X7_take_0_Z Z (upd f 52 ((f 52) + 1))) (s_X7_take_0_f Z (upd f 52 ((f 52) + 1)))) (t_X7_tick_1_f (s_X7_take_1_f (s_X7_take_0_Z Z (upd f 52 ((f 52) + 1))) (s_X7_take_0_f Z (upd f 52 ((f 52) + 1)))))) (upd (t_X7_tick_4_f (s_X7_take_1_Z (s_X7_take_0_Z Z (upd f 52 ((f 52) + 1))) (s_X7_take_0_f Z (upd f 52 ((f 52) + 1)))) (t_X7_tick_1_f (s_X7_take_1_f (s_X7_take_0_Z Z (upd f 52 ((f 52) + 1))) (s_X7_take_0_f Z (upd f 52 ((f 52) + 1)))))) 25 (r_X7_max (((t_X7_tick_4_f (s_X7_take_1_Z (s_X7_take_0_Z Z (upd f 52 ((f 52) + 1))) (s_X7_take_0_f Z (upd f 52 ((f 52) + 1)))) (t_X7_tick_1_f (s_X7_take_1_f (s_X7_take_0_Z Z (upd f 52 ((f 52) + 1))) (s_X7_take_0_f Z (upd f 52 ((f 52) + 1)))))) 25) - 1) 0))) 54) + 0)) else upd (s_X7_sendOn_1_f (t_X7_tick_4_Z (s_X7_take_1_Z (s_X7_take_0_Z Z (upd f 52 ((f 52) + 1))) (s_X7_take_0_f Z (upd f 52 ((f 52) + 1)))) (t_X7_tick_1_f (s_X7_take_1_f (s_X7_take_0_Z Z (upd f 52 ((f 52) + 1))) (s_X7_take_0_f Z (upd f 52 ((f 52) + 1)))))) (upd (t_X7_tick_4_f (s_X7_take_1_Z (s_X7_take_0_Z Z (upd f 52 ((f 52) + 1))) (s_X7_take_0_f Z (upd f 52 ((f 52) + 1)))) (t_X7_tick_1_f (s_X7_take_1_f (s_X7_take_0_Z Z (upd f 52 ((f 52) + 1))) (s_X7_take_0_f Z (upd f 52 ((f 52) + 1)))))) 25 (r_X7_max (((t_X7_tick_4_f (s_X7_take_1_Z (s_X7_take_0_Z Z (upd f 52 ((f 52) + 1))) (s_X7_take_0_f Z (upd f 52 ((f 52) + 1)))) (t_X7_tick_1_f (s_X7_take_1_f (s_X7_take_0_Z Z (upd f 52 ((f 52) + 1))) (s_X7_take_0_f Z (upd f 52 ((f 52) + 1)))))) 25) - 1) 0))) 54 (((s_X7_sendOn_1_f (t_X7_tick_4_Z (s_X7_take_1_Z (s_X7_take_0_Z Z (upd f 52 ((f 52) + 1))) (s_X7_take_0_f Z (upd f 52 ((f 52) + 1)))) (t_X7_tick_1_f (s_X7_take_1_f (s_X7_take_0_Z Z (upd f 52 ((f 52) + 1))) (s_X7_take_0_f Z (upd f 52 ((f 52) + 1)))))) (upd (t_X7_tick_4_f (s_X7_take_1_Z (s_X7_take_0_Z Z (upd f 52 ((f 52) + 1))) (s_X7_take_0_f Z (upd f 52 ((f 52) + 1)))) (t_X7_tick_1_f (s_X7_take_1_f (s_X7_take_0_Z Z (upd f 52 ((f 52) + 1))) (s_X7_take_0_f Z (upd f 52 ((f 52) + 1)))))) 25 (r_X7_max (((t_X7_tick_4_f (s_X7_take_1_Z (s_X7_take_0_Z Z (upd f 52 ((f 52) + 1))) (s_X7_take_0_f Z (upd f 52 ((f 52) + 1)))) (t_X7_tick_1_f (s_X7_take_1_f (s_X7_take_0_Z Z (upd f 52 ((f 52) + 1))) (s_X7_take_0_f Z (upd f 52 ((f 52) + 1)))))) 25) - 1) 0))) 54) + 0)) else if (t_X7_tick_4_f (s_X7_take_1_Z (s_X7_take_0_Z Z (upd f 52 ((f 52) + 1))) (s_X7_take_0_f Z (upd f 52 ((f 52) + 1)))) (t_X7_tick_1_f (s_X7_take_1_f (s_X7_take_0_Z Z (upd f 52 ((f 52) + 1))) (s_X7_take_0_f Z (upd f 52 ((f 52) + 1)))))) 5 = 2 then (if (t_X7_tick_4_f (s_X7_take_1_Z (s_X7_take_0_Z Z (upd f 52 ((f 52) + 1))) (s_X7_take_0_f Z (upd f 52 ((f 52) + 1)))) (t_X7_tick_1_f (s_X7_take_1_f (s_X7_take_0_Z Z (upd f 52 ((f 52) + 1))) (s_X7_take_0_f Z (upd f 52 ((f 52) + 1)))))) 21 = 2 then (upd (upd (t_X7_tick_4_f (s_X7_take_1_Z (s_X7_take_0_Z Z (upd f 52 ((f 52) + 1))) (s_X7_take_0_f Z (upd f 52 ((f 52) + 1)))) (t_X7_tick_1_f (s_X7_take_1_f (s_X7_take_0_Z Z (upd f 52 ((f 52) + 1))) (s_X7_take_0_f Z (upd f 52 ((f 52) + 1)))))) 25 (r_X7_max (((t_X7_tick_4_f (s_X7_take_1_Z (s_X7_take_0_Z Z (upd f 52 ((f 52) + 1))) (s_X7_take_0_f Z (upd f 52 ((f 52) + 1)))) (t_X7_tick_1_f (s_X7_take_1_f (s_X7_take_0_Z Z (upd f 52 ((f 52) + 1))) (s_X7_take_0_f Z (upd f 52 ((f 52) + 1)))))) 25) - 1) 0)) 54 (((t_X7_tick_4_f (s_X7_take_1_Z (s_X7_take_0_Z Z (upd f 52 ((f 52) + 1))) (s_X7_take_0_f Z (upd f 52 ((f 52) + 1)))) (t_X7_tick_1_f (s_X7_take_1_f (s_X7_take_0_Z Z (upd f 52 ((f 52) + 1))) (s_X7_take_0_f Z (upd f 52 ((f 52) + 1)))))) 54) + 1)) else upd (upd (t_X7_tick_4_f (s_X7_take_1_Z (s_X7_take_0_Z Z (upd f 52 ((f 52) + 1))) (s_X7_take_0_f Z (upd f 52 ((f 52) + 1)))) (t_X7_tick_1_f (s_X7_take_1_f (s_X7_take_0_Z Z (upd f 52 ((f 52) + 1))) (s_X7_take_0_f Z (upd f 52 ((f 52) + 1)))))) 25 (r_X7_max (((t_X7_tick_4_f (s_X7_take_1_Z (s_X7_take_0_Z Z (upd f 52 ((f 52) + 1))) (s_X7_take_0_f Z (upd f 52 ((f 52) + 1)))) (t_X7_tick_1_f (s_X7_take_1_f (s_X7_take_0_Z Z (upd f 52 ((f 52) + 1))) (s_X7_take_0_f Z (upd f 52 ((f 52) + 1)))))) 25) - 1) 0)) 54 (((t_X7_tick_4_f (s_X7_take_1_Z (s_X7_take_0_Z Z (upd f 52 ((f 52) + 1))) (s_X7_take_0_f Z (upd f 52 ((f 52) + 1)))) (t_X7_tick_1_f (s_X7_take_1_f (s_X7_take_0_Z Z (upd f 52 ((f 52) + 1))) (s_X7_take_0_f Z (upd f 52 ((f 52) + 1)))))) 54) + 0)) else upd (upd (t_X7_tick_4_f (s_X7_take_1_Z (s_X7_take_0_Z Z (upd f 52 ((f 52) + 1))) (s_X7_take_0_f Z (upd f 52 ((f 52) + 1)))) (t_X7_tick_1_f (s_X7_take_1_f (s_X7_take_0_Z Z (upd f 52 ((f 52) + 1))) (s_X7_take_0_f Z (upd f 52 ((f 52) + 1)))))) 25 (r_X7_max (((t_X7_tick_4_f (s_X7_take_1_Z (s_X7_take_0_Z Z (upd f 52 ((f 52) + 1))) (s_X7_take_0_f Z (upd f 52 ((f 52) + 1)))) (t_X7_tick_1_f (s_X7_take_1_f (s_X7_take_0_Z Z (upd f 52 ((f 52) + 1))) (s_X7_take_0_f Z (upd f 52 ((f 52) + 1)))))) 25) - 1) 0)) 54 (((t_X7_tick_4_f (s_X7_take_1_Z (s_X7_take_0_Z Z (upd f 52 ((f 52) + 1))) (s_X7_take_0_f Z (upd f 52 ((f 52) + 1)))) (t_X7_tick_1_f (s_X7_take_1_f (s_X7_take_0_Z Z (upd f 52 ((f 52) + 1))) (s_X7_take_0_f Z (upd f 52 ((f 52) + 1)))))) 54) + 0)) else if (t_X7_tick_4_f (s_X7_take_1_Z (s_X7_take_0_Z Z (upd f 52 ((f 52) + 1))) (s_X7_take_0_f Z (upd f 52 ((f 52) + 1)))) (t_X7_tick_1_f (s_X7_take_1_f (s_X7_take_0_Z Z (upd f 52 ((f 52) + 1))) (s_X7_take_0_f Z (upd f 52 ((f 52) + 1)))))) 5 = 2 then (if (t_X7_tick_4_f (s_X7_take_1_Z (s_X7_take_0_Z Z (upd f 52 ((f 52) + 1))) (s_X7_take_0_f Z (upd f 52 ((f 52) + 1)))) (t_X7_tick_1_f (s_X7_take_1_f (s_X7_take_0_Z Z (upd f 52 ((f 52) + 1))) (s_X7_take_0_f Z (upd f 52 ((f 52) + 1)))))) 21 = 2 then (upd (upd (t_X7_tick_4_f (s_X7_take_1_Z (s_X7_take_0_Z Z (upd f 52 ((f 52) + 1))) (s_X7_take_0_f Z (upd f 52 ((f 52) + 1)))) (t_X7_tick_1_f (s_X7_take_1_f (s_X7_take_0_Z Z (upd f 52 ((f 52) + 1))) (s_X7_take_0_f Z (upd f 52 ((f 52) + 1)))))) 25 (r_X7_max (((t_X7_tick_4_f (s_X7_take_1_Z (s_X7_take_0_Z Z (upd f 52 ((f 52) + 1))) (s_X7_take_0_f Z (upd f 52 ((f 52) + 1)))) (t_X7_tick_1_f (s_X7_take_1_f (s_X7_take_0_Z Z (upd f 52 ((f 52) + 1))) (s_X7_take_0_f Z (upd f 52 ((f 52) + 1)))))) 25) - 1) 0)) 54 (((t_X7_tick_4_f (s_X7_take_1_Z (s_X7_take_0_Z Z (upd f 52 ((f 52) + 1))) (s_X7_take_0_f Z (upd f 52 ((f 52) + 1)))) (t_X7_tick_1_f (s_X7_take_1_f (s_X7_take_0_Z Z (upd f 52 ((f 52) + 1))) (s_X7_take_0_f Z (upd f 52 ((f 52) + 1)))))) 54) + 1)) else upd (upd (t_X7_tick_4_f (s_X7_take_1_Z (s_X7_take_0_Z Z (upd f 52 ((f 52) + 1))) (s_X7_take_0_f Z (upd f 52 ((f 52) + 1)))) (t_X7_tick_1_f (s_X7_take_1_f (s_X7_take_0_Z Z (upd f 52 ((f 52) + 1))) (s_X7_take_0_f Z (upd f 52 ((f 52) + 1)))))) 25 (r_X7_max (((t_X7_tick_4_f (s_X7_take_1_Z (s_X7_take_0_Z Z (upd f 52 ((f 52) + 1))) (s_X7_take_0_f Z (upd f 52 ((f 52) + 1)))) (t_X7_tick_1_f (s_X7_take_1_f (s_X7_take_0_Z Z (upd f 52 ((f 52) + 1))) (s_X7_take_0_f Z (upd f 52 ((f 52) + 1)))))) 25) - 1) 0)) 54 (((t_X7_tick_4_f (s_X7_take_1_Z (s_X7_take_0_Z Z (upd f 52 ((f 52) + 1))) (s_X7_take_0_f Z (upd f 52 ((f 52) + 1)))) (t_X7_tick_1_f (s_X7_take_1_f (s_X7_take_0_Z Z (upd f 52 ((f 52) + 1))) (s_X7_take_0_f Z (upd f 52 ((f 52) + 1)))))) 54) + 0)) else upd (upd (t_X7_tick_4_f (s_X7_take_1_Z (s_X7_take_0_Z Z (upd f 52 ((f 52) + 1))) (s_X7_take_0_f Z (upd f 52 ((f 52) + 1)))) (t_X7_tick_1_f (s_X7_take_1_f (s_X7_take_0_Z Z (upd f 52 ((f 52) + 1))) (s_X7_take_0_f Z (upd f 52 ((f 52) + 1)))))) 25 (r_X7_max (((t_X7_tick_4_f (s_X7_take_1_Z (s_X7_take_0_Z Z (upd f 52 ((f 52) + 1))) (s_X7_take_0_f Z (upd f 52 ((f 52) + 1)))) (t_X7_tick_1_f (s_X7_take_1_f (s_X7_take_0_Z Z (upd f 52 ((f 52) + 1))) (s_X7_take_0_f Z (upd f 52 ((f 52) + 1)))))) 25) - 1) 0)) 54 (((t_X7_tick_4_f (s_X7_take_1_Z (s_X7_take_0_Z Z (upd f 52 ((f 52) + 1))) (s_X7_take_0_f Z (upd f 52 ((f 52) + 1)))) (t_X7_tick_1_f (s_X7_take_1_f (s_X7_take_0_Z Z (upd f 52 ((f 52) + 1))) (s_X7_take_0_f Z (upd f 52 ((f 52) + 1)))))) 54) + 0)) else if (t_X7_tick_5_f (s_X7_take_1_Z (s_X7_take_0_Z Z (upd f 52 ((f 52) + 1))) (s_X7_take_0_f Z (upd f 52 ((f 52) + 1)))) (t_X7_tick_1_f (s_X7_take_1_f (s_X7_take_0_Z Z (upd f 52 ((f 52) + 1))) (s_X7_take_0_f Z (upd f 52 ((f 52) + 1)))))) 26 = 1 then (if (s_X7_sendOn_1_f (t_X7_tick_5_Z (s_X7_take_1_Z (s_X7_take_0_Z Z (upd f 52 ((f 52) + 1))) (s_X7_take_0_f Z (upd f 52 ((f 52) + 1)))) (t_X7_tick_1_f (s_X7_take_1_f (s_X7_take_0_Z Z (upd f 52 ((f 52) + 1))) (s_X7_take_0_f Z (upd f 52 ((f 52) + 1)))))) (upd (t_X7_tick_5_f (s_X7_take_1_Z (s_X7_take_0_Z Z (upd f 52 ((f 52) + 1))) (s_X7_take_0_f Z (upd f 52 ((f 52) + 1)))) (t_X7_tick_1_f (s_X7_take_1_f (s_X7_take_0_Z Z (upd f 52 ((f 52) + 1))) (s_X7_take_0_f Z (upd f 52 ((f 52) + 1)))))) 25 (r_X7_max (((t_X7_tick_5_f (s_X7_take_1_Z (s_X7_take_0_Z Z (upd f 52 ((f 52) + 1))) (s_X7_take_0_f Z (upd f 52 ((f 52) + 1)))) (t_X7_tick_1_f (s_X7_take_1_f (s_X7_take_0_Z Z (upd f 52 ((f 52) + 1))) (s_X7_take_0_f Z (upd f 52 ((f 52) + 1)))))) 25) - 1) 0))) 5 = 2 then (if (s_X7_sendOn_1_f (t_X7_tick_5_Z (s_X7_take_1_Z (s_X7_take_0_Z Z (upd f 52 ((f 52) + 1))) (s_X7_take_0_f Z (upd f 52 ((f 52) + 1)))) (t_X7_tick_1_f (s_X7_take_1_f (s_X7_take_0_Z Z (upd f 52 ((f 52) + 1))) (s_X7_take_0_f Z (upd f 52 ((f 52) + 1)))))) (upd (t_X7_tick_5_f (s_X7_take_1_Z (s_X7_take_0_Z Z (upd f 52 ((f 52) + 1))) (s_X7_take_0_f Z (upd f 52 ((f 52) + 1)))) (t_X7_tick_1_f (s_X7_take_1_f (s_X7_take_0_Z Z (upd f 52 ((f 52) + 1))) (s_X7_take_0_f Z (upd f 52 ((f 52) + 1)))))) 25 (r_X7_max (((t_X7_tick_5_f (s_X7_take_1_Z (s_X7_take_0_Z Z (upd f 52 ((f 52) + 1))) (s_X7_take_0_f Z (upd f 52 ((f 52) + 1)))) (t_X7_tick_1_f (s_X7_take_1_f (s_X7_take_0_Z Z (upd f 52 ((f 52) + 1))) (s_X7_take_0_f Z (upd f 52 ((f 52) + 1)))))) 25) - 1) 0))) 21 = 2 then (upd (s_X7_sendOn_1_f (t_X7_tick_5_Z (s_X7_take_1_Z (s_X7_take_0_Z Z (upd f 52 ((f 52) + 1))) (s_X7_take_0_f Z (upd f 52 ((f 52) + 1)))) (t_X7_tick_1_f (s_X7_take_1_f (s_X7_take_0_Z Z (upd f 52 ((f 52) + 1))) (s_X7_take_0_f Z (upd f 52 ((f 52) + 1)))))) (upd (t_X7_tick_5_f (s_X7_take_1_Z (s_X7_take_0_Z Z (upd f 52 ((f 52) + 1))) (s_X7_take_0_f Z (upd f 52 ((f 52) + 1)))) (t_X7_tick_1_f (s_X7_take_1_f (s_X7_take_0_Z Z (upd f 52 ((f 52) + 1))) (s_X7_take_0_f Z (upd f 52 ((f 52) + 1)))))) 25 (r_X7_max (((t_X7_tick_5_f (s_X7_take_1_Z (s_X7_take_0_Z Z (upd f 52 ((f 52) + 1))) (s_X7_take_0_f Z (upd f 52 ((f 52) + 1)))) (t_X7_tick_1_f (s_X7_take_1_f (s_X7_take_0_Z Z (upd f 52 ((f 52) + 1))) (s_X7_take_0_f Z (upd f 52 ((f 52) + 1)))))) 25) - 1) 0))) 54 (((s_X7_sendOn_1_f (t_X7_tick_5_Z (s_X7_take_1_Z (s_X7_take_0_Z Z (upd f 52 ((f 52) + 1))) (s_X7_take_0_f Z (upd f 52 ((f 52) + 1)))) (t_X7_tick_1_f (s_X7_take_1_f (s_X7_take_0_Z Z (upd f 52 ((f 52) + 1))) (s_X7_take_0_f Z (upd f 52 ((f 52) + 1)))))) (upd (t_X7_tick_5_f (s_X7_take_1_Z (s_X7_take_0_Z Z (upd f 52 ((f 52) + 1))) (s_X7_take_0_f Z (upd f 52 ((f 52) + 1)))) (t_X7_tick_1_f (s_X7_take_1_f (s_X7_take_0_Z Z (upd f 52 ((f 52) + 1))) (s_X7_take_0_f Z (upd f 52 ((f 52) + 1)))))) 25 (r_X7_max (((t_X7_tick_5_f (s_X7_take_1_Z (s_X7_take_0_Z Z (upd f 52 ((f 52) + 1))) (s_X7_take_0_f Z (upd f 52 ((f 52) + 1)))) (t_X7_tick_1_f (s_X7_take_1_f (s_X7_take_0_Z Z (upd f 52 ((f 52) + 1))) (s_X7_take_0_f Z (upd f 52 ((f 52) + 1)))))) 25) - 1) 0))) 54) + 1)) else upd (s_X7_sendOn_1_f (t_X7_tick_5_Z (s_X7_take_1_Z (s_X7_take_0_Z Z (upd f 52 ((f 52) + 1))) (s_X7_take_0_f Z (upd f 52 ((f 52) + 1)))) (t_X7_tick_1_f (s_X7_take_1_f (s_X7_take_0_Z Z (upd f 52 ((f 52) + 1))) (s_X7_take_0_f Z (upd f 52 ((f 52) + 1)))))) (upd (t_X7_tick_5_f (s_X7_take_1_Z (s_X7_take_0_Z Z (upd f 52 ((f 52) + 1))) (s_X7_take_0_f Z (upd f 52 ((f 52) + 1)))) (t_X7_tick_1_f (s_X7_take_1_f (s_X7_take_0_Z Z (upd f 52 ((f 52) + 1))) (s_X7_take_0_f Z (upd f 52 ((f 52) + 1)))))) 25 (r_X7_max (((t_X7_tick_5_f (s_X7_take_1_Z (s_X7_take_0_Z Z (upd f 52 ((f 52) + 1))) (s_X7_take_0_f Z (upd f 52 ((f 52) + 1)))) (t_X7_tick_1_f (s_X7_take_1_f (s_X7_take_0_Z Z (upd f 52 ((f 52) + 1))) (s_X7_take_0_f Z (upd f 52 ((f 52) + 1)))))) 25) - 1) 0))) 54 (((s_X7_sendOn_1_f (t_X7_tick_5_Z (s_X7_take_1_Z (s_X7_take_0_Z Z (upd f 52 ((f 52) + 1))) (s_X7_take_0_f Z (upd f 52 ((f 52) + 1)))) (t_X7_tick_1_f (s_X7_take_1_f (s_X7_take_0_Z Z (upd f 52 ((f 52) + 1))) (s_X7_take_0_f Z (upd f 52 ((f 52) + 1)))))) (upd (t_X7_tick_5_f (s_X7_take_1_Z (s_X7_take_0_Z Z (upd f 52 ((f 52) + 1))) (s_X7_take_0_f Z (upd f 52 ((f 52) + 1)))) (t_X7_tick_1_f (s_X7_take_1_f (s_X7_take_0_Z Z (upd f 52 ((f 52) + 1))) (s_X7_take_0_f Z (upd f 52 ((f 52) + 1)))))) 25 (r_X7_max (((t_X7_tick_5_f (s_X7_take_1_Z (s_X7_take_0_Z Z (upd f 52 ((f 52) + 1))) (s_X7_take_0_f Z (upd f 52 ((f 52) + 1)))) (t_X7_tick_1_f (s_X7_take_1_f (s_X7_take_0_Z Z (upd f 52 ((f 52) + 1))) (s_X7_take_0_f Z (upd f 52 ((f 52) + 1)))))) 25) - 1) 0))) 54) + 0)) else upd (s_X7_sendOn_1_f (t_X7_tick_5_Z (s_X7_take_1_Z (s_X7_take_0_Z Z (upd f 52 ((f 52) + 1))) (s_X7_take_0_f Z (upd f 52 ((f 52) + 1)))) (t_X7_tick_1_f (s_X7_take_1_f (s_X7_take_0_Z Z (upd f 52 ((f 52) + 1))) (s_X7_take_0_f Z (upd f 52 ((f 52) + 1)))))) (upd (t_X7_tick_5_f (s_X7_take_1_Z (s_X7_take_0_Z Z (upd f 52 ((f 52) + 1))) (s_X7_take_0_f Z (upd f 52 ((f 52) + 1)))) (t_X7_tick_1_f (s_X7_take_1_f (s_X7_take_0_Z Z (upd f 52 ((f 52) + 1))) (s_X7_take_0_f Z (upd f 52 ((f 52) + 1)))))) 25 (r_X7_max (((t_X7_tick_5_f (s_X7_take_1_Z (s_X7_take_0_Z Z (upd f 52 ((f 52) + 1))) (s_X7_take_0_f Z (upd f 52 ((f 52) + 1)))) (t_X7_tick_1_f (s_X7_take_1_f (s_X7_take_0_Z Z (upd f 52 ((f 52) + 1))) (s_X7_take_0_f Z (upd f 52 ((f 52) + 1)))))) 25) - 1) 0))) 54 (((s_X7_sendOn_1_f (t_X7_tick_5_Z (s_X7_take_1_Z (s_X7_take_0_Z Z (upd f 52 ((f 52) + 1))) (s_X7_take_0_f Z (upd f 52 ((f 52) + 1)))) (t_X7_tick_1_f (s_X7_take_1_f (s_X7_take_0_Z Z (upd f 52 ((f 52) + 1))) (s_X7_take_0_f Z (upd f 52 ((f 52) + 1)))))) (upd (t_X7_tick_5_f (s_X7_take_1_Z (s_X7_take_0_Z Z (upd f 52 ((f 52) + 1))) (s_X7_take_0_f Z (upd f 52 ((f 52) + 1)))) (t_X7_tick_1_f (s_X7_take_1_f (s_X7_take_0_Z Z (upd f 52 ((f 52) + 1))) (s_X7_take_0_f Z (upd f 52 ((f 52) + 1)))))) 25 (r_X7_max (((t_X7_tick_5_f (s_X7_take_1_Z (s_X7_take_0_Z Z (upd f 52 ((f 52) + 1))) (s_X7_take_0_f Z (upd f 52 ((f 52) + 1)))) (t_X7_tick_1_f (s_X7_take_1_f (s_X7_take_0_Z Z (upd f 52 ((f 52) + 1))) (s_X7_take_0_f Z (upd f 52 ((f 52) + 1)))))) 25) - 1) 0))) 54) + 0)) else if (r_X7_max (((t_X7_tick_5_f (s_X7_take_1_Z (s_X7_take_0_Z Z (upd f 52 ((f 52) + 1))) (s_X7_take_0_f Z (upd f 52 ((f 52) + 1)))) (t_X7_tick_1_f (s_X7_take_1_f (s_X7_take_0_Z Z (upd f 52 ((f 52) + 1))) (s_X7_take_0_f Z (upd f 52 ((f 52) + 1)))))) 25) - 1) 0) = 0 then (if (r_X7_isStill_16 (upd (t_X7_tick_5_f (s_X7_take_1_Z (s_X7_take_0_Z Z (upd f 52 ((f 52) + 1))) (s_X7_take_0_f Z (upd f 52 ((f 52) + 1)))) (t_X7_tick_1_f (s_X7_take_1_f (s_X7_take_0_Z Z (upd f 52 ((f 52) + 1))) (s_X7_take_0_f Z (upd f 52 ((f 52) + 1)))))) 25 (r_X7_max (((t_X7_tick_5_f (s_X7_take_1_Z (s_X7_take_0_Z Z (upd f 52 ((f 52) + 1))) (s_X7_take_0_f Z (upd f 52 ((f 52) + 1)))) (t_X7_tick_1_f (s_X7_take_1_f (s_X7_take_0_Z Z (upd f 52 ((f 52) + 1))) (s_X7_take_0_f Z (upd f 52 ((f 52) + 1)))))) 25) - 1) 0))) = 0 then (if (s_X7_sendOn_1_f (t_X7_tick_5_Z (s_X7_take_1_Z (s_X7_take_0_Z Z (upd f 52 ((f 52) + 1))) (s_X7_take_0_f Z (upd f 52 ((f 52) + 1)))) (t_X7_tick_1_f (s_X7_take_1_f (s_X7_take_0_Z Z (upd f 52 ((f 52) + 1))) (s_X7_take_0_f Z (upd f 52 ((f 52) + 1)))))) (upd (t_X7_tick_5_f (s_X7_take_1_Z (s_X7_take_0_Z Z (upd f 52 ((f 52) + 1))) (s_X7_take_0_f Z (upd f 52 ((f 52) + 1)))) (t_X7_tick_1_f (s_X7_take_1_f (s_X7_take_0_Z Z (upd f 52 ((f 52) + 1))) (s_X7_take_0_f Z (upd f 52 ((f 52) + 1)))))) 25 (r_X7_max (((t_X7_tick_5_f (s_X7_take_1_Z (s_X7_take_0_Z Z (upd f 52 ((f 52) + 1))) (s_X7_take_0_f Z (upd f 52 ((f 52) + 1)))) (t_X7_tick_1_f (s_X7_take_1_f (s_X7_take_0_Z Z (upd f 52 ((f 52) + 1))) (s_X7_take_0_f Z (upd f 52 ((f 52) + 1)))))) 25) - 1) 0))) 5 = 2 then (if (s_X7_sendOn_1_f (t_X7_tick_5_Z (s_X7_take_1_Z (s_X7_take_0_Z Z (upd f 52 ((f 52) + 1))) (s_X7_take_0_f Z (upd f 52 ((f 52) + 1)))) (t_X7_tick_1_f (s_X7_take_1_f (s_X7_take_0_Z Z (upd f 52 ((f 52) + 1))) (s_X7_take_0_f Z (upd f 52 ((f 52) + 1)))))) (upd (t_X7_tick_5_f (s_X7_take_1_Z (s_X7_take_0_Z Z (upd f 52 ((f 52) + 1))) (s_X7_take_0_f Z (upd f 52 ((f 52) + 1)))) (t_X7_tick_1_f (s_X7_take_1_f (s_X7_take_0_Z Z (upd f 52 ((f 52) + 1))) (s_X7_take_0_f Z (upd f 52 ((f 52) + 1)))))) 25 (r_X7_max (((t_X7_tick_5_f (s_X7_take_1_Z (s_X7_take_0_Z Z (upd f 52 ((f 52) + 1))) (s_X7_take_0_f Z (upd f 52 ((f 52) + 1)))) (t_X7_tick_1_f (s_X7_take_1_f (s_X7_take_0_Z Z (upd f 52 ((f 52) + 1))) (s_X7_take_0_f Z (upd f 52 ((f 52) + 1)))))) 25) - 1) 0))) 21 = 2 then (upd (s_X7_sendOn_1_f (t_X7_tick_5_Z (s_X7_take_1_Z (s_X7_take_0_Z Z (upd f 52 ((f 52) + 1))) (s_X7_take_0_f Z (upd f 52 ((f 52) + 1)))) (t_X7_tick_1_f (s_X7_take_1_f (s_X7_take_0_Z Z (upd f 52 ((f 52) + 1))) (s_X7_take_0_f Z (upd f 52 ((f 52) + 1)))))) (upd (t_X7_tick_5_f (s_X7_take_1_Z (s_X7_take_0_Z Z (upd f 52 ((f 52) + 1))) (s_X7_take_0_f Z (upd f 52 ((f 52) + 1)))) (t_X7_tick_1_f (s_X7_take_1_f (s_X7_take_0_Z Z (upd f 52 ((f 52) + 1))) (s_X7_take_0_f Z (upd f 52 ((f 52) + 1)))))) 25 (r_X7_max (((t_X7_tick_5_f (s_X7_take_1_Z (s_X7_take_0_Z Z (upd f 52 ((f 52) + 1))) (s_X7_take_0_f Z (upd f 52 ((f 52) + 1)))) (t_X7_tick_1_f (s_X7_take_1_f (s_X7_take_0_Z Z (upd f 52 ((f 52) + 1))) (s_X7_take_0_f Z (upd f 52 ((f 52) + 1)))))) 25) - 1) 0))) 54 (((s_X7_sendOn_1_f (t_X7_tick_5_Z (s_X7_take_1_Z (s_X7_take_0_Z Z (upd f 52 ((f 52) + 1))) (s_X7_take_0_f Z (upd f 52 ((f 52) + 1)))) (t_X7_tick_1_f (s_X7_take_1_f (s_X7_take_0_Z Z (upd f 52 ((f 52) + 1))) (s_X7_take_0_f Z (upd f 52 ((f 52) + 1)))))) (upd (t_X7_tick_5_f (s_X7_take_1_Z (s_X7_take_0_Z Z (upd f 52 ((f 52) + 1))) (s_X7_take_0_f Z (upd f 52 ((f 52) + 1)))) (t_X7_tick_1_f (s_X7_take_1_f (s_X7_take_0_Z Z (upd f 52 ((f 52) + 1))) (s_X7_take_0_f Z (upd f 52 ((f 52) + 1)))))) 25 (r_X7_max (((t_X7_tick_5_f (s_X7_take_1_Z (s_X7_take_0_Z Z (upd f 52 ((f 52) + 1))) (s_X7_take_0_f Z (upd f 52 ((f 52) + 1)))) (t_X7_tick_1_f (s_X7_take_1_f (s_X7_take_0_Z Z (upd f 52 ((f 52) + 1))) (s_X7_take_0_f Z (upd f 52 ((f 52) + 1)))))) 25) - 1) 0))) 54) + 1)) else upd (s_X7_sendOn_1_f (t_X7_tick_5_Z (s_X7_take_1_Z (s_X7_take_0_Z Z (upd f 52 ((f 52) + 1))) (s_X7_take_0_f Z (upd f 52 ((f 52) + 1)))) (t_X7_tick_1_f (s_X7_take_1_f (s_X7_take_0_Z Z (upd f 52 ((f 52) + 1))) (s_X7_take_0_f Z (upd f 52 ((f 52) + 1)))))) (upd (t_X7_tick_5_f (s_X7_take_1_Z (s_X7_take_0_Z Z (upd f 52 ((f 52) + 1))) (s_X7_take_0_f Z (upd f 52 ((f 52) + 1)))) (t_X7_tick_1_f (s_X7_take_1_f (s_X7_take_0_Z Z (upd f 52 ((f 52) + 1))) (s_X7_take_0_f Z (upd f 52 ((f 52) + 1)))))) 25 (r_X7_max (((t_X7_tick_5_f (s_X7_take_1_Z (s_X7_take_0_Z Z (upd f 52 ((f 52) + 1))) (s_X7_take_0_f Z (upd f 52 ((f 52) + 1)))) (t_X7_tick_1_f (s_X7_take_1_f (s_X7_take_0_Z Z (upd f 52 ((f 52) + 1))) (s_X7_take_0_f Z (upd f 52 ((f 52) + 1)))))) 25) - 1) 0))) 54 (((s_X7_sendOn_1_f (t_X7_tick_5_Z (s_X7_take_1_Z (s_X7_take_0_Z Z (upd f 52 ((f 52) + 1))) (s_X7_take_0_f Z (upd f 52 ((f 52) + 1)))) (t_X7_tick_1_f (s_X7_take_1_f (s_X7_take_0_Z Z (upd f 52 ((f 52) + 1))) (s_X7_take_0_f Z (upd f 52 ((f 52) + 1)))))) (upd (t_X7_tick_5_f (s_X7_take_1_Z (s_X7_take_0_Z Z (upd f 52 ((f 52) + 1))) (s_X7_take_0_f Z (upd f 52 ((f 52) + 1)))) (t_X7_tick_1_f (s_X7_take_1_f (s_X7_take_0_Z Z (upd f 52 ((f 52) + 1))) (s_X7_take_0_f Z (upd f 52 ((f 52) + 1)))))) 25 (r_X7_max (((t_X7_tick_5_f (s_X7_take_1_Z (s_X7_take_0_Z Z (upd f 52 ((f 52) + 1))) (s_X7_take_0_f Z (upd f 52 ((f 52) + 1)))) (t_X7_tick_1_f (s_X7_take_1_f (s_X7_take_0_Z Z (upd f 52 ((f 52) + 1))) (s_X7_take_0_f Z (upd f 52 ((f 52) + 1)))))) 25) - 1) 0))) 54) + 0)) else upd (s_X7_sendOn_1_f (t_X7_tick_5_Z (s_X7_take_1_Z (s_X7_take_0_Z Z (upd f 52 ((f 52) + 1))) (s_X7_take_0_f Z (upd f 52 ((f 52) + 1)))) (t_X7_tick_1_f (s_X7_take_1_f (s_X7_take_0_Z Z (upd f 52 ((f 52) + 1))) (s_X7_take_0_f Z (upd f 52 ((f 52) + 1)))))) (upd (t_X7_tick_5_f (s_X7_take_1_Z (s_X7_take_0_Z Z (upd f 52 ((f 52) + 1))) (s_X7_take_0_f Z (upd f 52 ((f 52) + 1)))) (t_X7_tick_1_f (s_X7_take_1_f (s_X7_take_0_Z Z (upd f 52 ((f 52) + 1))) (s_X7_take_0_f Z (upd f 52 ((f 52) + 1)))))) 25 (r_X7_max (((t_X7_tick_5_f (s_X7_take_1_Z (s_X7_take_0_Z Z (upd f 52 ((f 52) + 1))) (s_X7_take_0_f Z (upd f 52 ((f 52) + 1)))) (t_X7_tick_1_f (s_X7_take_1_f (s_X7_take_0_Z Z (upd f 52 ((f 52) + 1))) (s_X7_take_0_f Z (upd f 52 ((f 52) + 1)))))) 25) - 1) 0))) 54 (((s_X7_sendOn_1_f (t_X7_tick_5_Z (s_X7_take_1_Z (s_X7_take_0_Z Z (upd f 52 ((f 52) + 1))) (s_X7_take_0_f Z (upd f 52 ((f 52) + 1)))) (t_X7_tick_1_f (s_X7_take_1_f (s_X7_take_0_Z Z (upd f 52 ((f 52) + 1))) (s_X7_take_0_f Z (upd f 52 ((f 52) + 1)))))) (upd (t_X7_tick_5_f (s_X7_take_1_Z (s_X7_take_0_Z Z (upd f 52 ((f 52) + 1))) (s_X7_take_0_f Z (upd f 52 ((f 52) + 1)))) (t_X7_tick_1_f (s_X7_take_1_f (s_X7_take_0_Z Z (upd f 52 ((f 52) + 1))) (s_X7_take_0_f Z (upd f 52 ((f 52) + 1)))))) 25 (r_X7_max (((t_X7_tick_5_f (s_X7_take_1_Z (s_X7_take_0_Z Z (upd f 52 ((f 52) + 1))) (s_X7_take_0_f Z (upd f 52 ((f 52) + 1)))) (t_X7_tick_1_f (s_X7_take_1_f (s_X7_take_0_Z Z (upd f 52 ((f 52) + 1))) (s_X7_take_0_f Z (upd f 52 ((f 52) + 1)))))) 25) - 1) 0))) 54) + 0)) else if (t_X7_tick_5_f (s_X7_take_1_Z (s_X7_take_0_Z Z (upd f 52 ((f 52) + 1))) (s_X7_take_0_f Z (upd f 52 ((f 52) + 1)))) (t_X7_tick_1_f (s_X7_take_1_f (s_X7_take_0_Z Z (upd f 52 ((f 52) + 1))) (s_X7_take_0_f Z (upd f 52 ((f 52) + 1)))))) 5 = 2 then (if (t_X7_tick_5_f (s_X7_take_1_Z (s_X7_take_0_Z Z (upd f 52 ((f 52) + 1))) (s_X7_take_0_f Z (upd f 52 ((f 52) + 1)))) (t_X7_tick_1_f (s_X7_take_1_f (s_X7_take_0_Z Z (upd f 52 ((f 52) + 1))) (s_X7_take_0_f Z (upd f 52 ((f 52) + 1)))))) 21 = 2 then (upd (upd (t_X7_tick_5_f (s_X7_take_1_Z (s_X7_take_0_Z Z (upd f 52 ((f 52) + 1))) (s_X7_take_0_f Z (upd f 52 ((f 52) + 1)))) (t_X7_tick_1_f (s_X7_take_1_f (s_X7_take_0_Z Z (upd f 52 ((f 52) + 1))) (s_X7_take_0_f Z (upd f 52 ((f 52) + 1)))))) 25 (r_X7_max (((t_X7_tick_5_f (s_X7_take_1_Z (s_X7_take_0_Z Z (upd f 52 ((f 52) + 1))) (s_X7_take_0_f Z (upd f 52 ((f 52) + 1)))) (t_X7_tick_1_f (s_X7_take_1_f (s_X7_take_0_Z Z (upd f 52 ((f 52) + 1))) (s_X7_take_0_f Z (upd f 52 ((f 52) + 1)))))) 25) - 1) 0)) 54 (((t_X7_tick_5_f (s_X7_take_1_Z (s_X7_take_0_Z Z (upd f 52 ((f 52) + 1))) (s_X7_take_0_f Z (upd f 52 ((f 52) + 1)))) (t_X7_tick_1_f (s_X7_take_1_f (s_X7_take_0_Z Z (upd f 52 ((f 52) + 1))) (s_X7_take_0_f Z (upd f 52 ((f 52) + 1)))))) 54) + 1)) else upd (upd (t_X7_tick_5_f (s_X7_take_1_Z (s_X7_take_0_Z Z (upd f 52 ((f 52) + 1))) (s_X7_take_0_f Z (upd f 52 ((f 52) + 1)))) (t_X7_tick_1_f (s_X7_take_1_f (s_X7_take_0_Z Z (upd f 52 ((f 52) + 1))) (s_X7_take_0_f Z (upd f 52 ((f 52) + 1)))))) 25 (r_X7_max (((t_X7_tick_5_f (s_X7_take_1_Z (s_X7_take_0_Z Z (upd f 52 ((f 52) + 1))) (s_X7_take_0_f Z (upd f 52 ((f 52) + 1)))) (t_X7_tick_1_f (s_X7_take_1_f (s_X7_take_0_Z Z (upd f 52 ((f 52) + 1))) (s_X7_take_0_f Z (upd f 52 ((f 52) + 1)))))) 25) - 1) 0)) 54 (((t_X7_tick_5_f (s_X7_take_1_Z (s_X7_take_0_Z Z (upd f 52 ((f 52) + 1))) (s_X7_take_0_f Z (upd f 52 ((f 52) + 1)))) (t_X7_tick_1_f (s_X7_take_1_f (s_X7_take_0_Z Z (upd f 52 ((f 52) + 1))) (s_X7_take_0_f Z (upd f 52 ((f 52) + 1)))))) 54) + 0)) else upd (upd (t_X7_tick_5_f (s_X7_take_1_Z (s_X7_take_0_Z Z (upd f 52 ((f 52) + 1))) (s_X7_take_0_f Z (upd f 52 ((f 52) + 1)))) (t_X7_tick_1_f (s_X7_take_1_f (s_X7_take_0_Z Z (upd f 52 ((f 52) + 1))) (s_X7_take_0_f Z (upd f 52 ((f 52) + 1)))))) 25 (r_X7_max (((t_X7_tick_5_f (s_X7_take_1_Z (s_X7_take_0_Z Z (upd f 52 ((f 52) + 1))) (s_X7_take_0_f Z (upd f 52 ((f 52) + 1)))) (t_X7_tick_1_f (s_X7_take_1_f (s_X7_take_0_Z Z (upd f 52 ((f 52) + 1))) (s_X7_take_0_f Z (upd f 52 ((f 52) + 1)))))) 25) - 1) 0)) 54 (((t_X7_tick_5_f (s_X7_take_1_Z (s_X7_take_0_Z Z (upd f 52 ((f 52) + 1))) (s_X7_take_0_f Z (upd f 52 ((f 52) + 1)))) (t_X7_tick_1_f (s_X7_take_1_f (s_X7_take_0_Z Z (upd f 52 ((f 52) + 1))) (s_X7_take_0_f Z (upd f 52 ((f 52) + 1)))))) 54) + 0)) else if (t_X7_tick_5_f (s_X7_take_1_Z (s_X7_take_0_Z Z (upd f 52 ((f 52) + 1))) (s_X7_take_0_f Z (upd f 52 ((f 52) + 1)))) (t_X7_tick_1_f (s_X7_take_1_f (s_X7_take_0_Z Z (upd f 52 ((f 52) + 1))) (s_X7_take_0_f Z (upd f 52 ((f 52) + 1)))))) 5 = 2 then (if (t_X7_tick_5_f (s_X7_take_1_Z (s_X7_take_0_Z Z (upd f 52 ((f 52) + 1))) (s_X7_take_0_f Z (upd f 52 ((f 52) + 1)))) (t_X7_tick_1_f (s_X7_take_1_f (s_X7_take_0_Z Z (upd f 52 ((f 52) + 1))) (s_X7_take_0_f Z (upd f 52 ((f 52) + 1)))))) 21 = 2 then (upd (upd (t_X7_tick_5_f (s_X7_take_1_Z (s_X7_take_0_Z Z (upd f 52 ((f 52) + 1))) (s_X7_take_0_f Z (upd f 52 ((f 52) + 1)))) (t_X7_tick_1_f (s_X7_take_1_f (s_X7_take_0_Z Z (upd f 52 ((f 52) + 1))) (s_X7_take_0_f Z (upd f 52 ((f 52) + 1)))))) 25 (r_X7_max (((t_X7_tick_5_f (s_X7_take_1_Z (s_X7_take_0_Z Z (upd f 52 ((f 52) + 1))) (s_X7_take_0_f Z (upd f 52 ((f 52) + 1)))) (t_X7_tick_1_f (s_X7_take_1_f (s_X7_take_0_Z Z (upd f 52 ((f 52) + 1))) (s_X7_take_0_f Z (upd f 52 ((f 52) + 1)))))) 25) - 1) 0)) 54 (((t_X7_tick_5_f (s_X7_take_1_Z (s_X7_take_0_Z Z (upd f 52 ((f 52) + 1))) (s_X7_take_0_f Z (upd f 52 ((f 52) + 1)))) (t_X7_tick_1_f (s_X7_take_1_f (s_X7_take_0_Z Z (upd f 52 ((f 52) + 1))) (s_X7_take_0_f Z (upd f 52 ((f 52) + 1)))))) 54) + 1)) else upd (upd (t_X7_tick_5_f (s_X7_take_1_Z (s_X7_take_0_Z Z (upd f 52 ((f 52) + 1))) (s_X7_take_0_f Z (upd f 52 ((f 52) + 1)))) (t_X7_tick_1_f (s_X7_take_1_f (s_X7_take_0_Z Z (upd f 52 ((f 52) + 1))) (s_X7_take_0_f Z (upd f 52 ((f 52) + 1)))))) 25 (r_X7_max (((t_X7_tick_5_f (s_X7_take_1_Z (s_X7_take_0_Z Z (upd f 52 ((f 52) + 1))) (s_X7_take_0_f Z (upd f 52 ((f 52) + 1)))) (t_X7_tick_1_f (s_X7_take_1_f (s_X7_take_0_Z Z (upd f 52 ((f 52) + 1))) (s_X7_take_0_f Z (upd f 52 ((f 52) + 1)))))) 25) - 1) 0)) 54 (((t_X7_tick_5_f (s_X7_take_1_Z (s_X7_take_0_Z Z (upd f 52 ((f 52) + 1))) (s_X7_take_0_f Z (upd f 52 ((f 52) + 1)))) (t_X7_tick_1_f (s_X7_take_1_f (s_X7_take_0_Z Z (upd f 52 ((f 52) + 1))) (s_X7_take_0_f Z (upd f 52 ((f 52) + 1)))))) 54) + 0)) else upd (upd (t_X7_tick_5_f (s_X7_take_1_Z (s_X7_take_0_Z Z (upd f 52 ((f 52) + 1))) (s_X7_take_0_f Z (upd f 52 ((f 52) + 1)))) (t_X7_tick_1_f (s_X7_take_1_f (s_X7_take_0_Z Z (upd f 52 ((f 52) + 1))) (s_X7_take_0_f Z (upd f 52 ((f 52) + 1)))))) 25 (r_X7_max (((t_X7_tick_5_f (s_X7_take_1_Z (s_X7_take_0_Z Z (upd f 52 ((f 52) + 1))) (s_X7_take_0_f Z (upd f 52 ((f 52) + 1)))) (t_X7_tick_1_f (s_X7_take_1_f (s_X7_take_0_Z Z (upd f 52 ((f 52) + 1))) (s_X7_take_0_f Z (upd f 52 ((f 52) + 1)))))) 25) - 1) 0)) 54 (((t_X7_tick_5_f (s_X7_take_1_Z (s_X7_take_0_Z Z (upd f 52 ((f 52) + 1))) (s_X7_take_0_f Z (upd f 52 ((f 52) + 1)))) (t_X7_tick_1_f (s_X7_take_1_f (s_X7_take_0_Z Z (upd f 52 ((f 52) + 1))) (s_X7_take_0_f Z (upd f 52 ((f 52) + 1)))))) 54) + 0)) else if (t_X7_tick_3_f (s_X7_take_1_Z (s_X7_take_0_Z Z (upd f 52 ((f 52) + 1))) (s_X7_take_0_f Z (upd f 52 ((f 52) + 1)))) (t_X7_tick_1_f (s_X7_take_1_f (s_X7_take_0_Z Z (upd f 52 ((f 52) + 1))) (s_X7_take_0_f Z (upd f 52 ((f 52) + 1)))))) 26 = 1 then (if (s_X7_sendOn_1_f (t_X7_tick_3_Z (s_X7_take_1_Z (s_X7_take_0_Z Z (upd f 52 ((f 52) + 1))) (s_X7_take_0_f Z (upd f 52 ((f 52) + 1)))) (t_X7_tick_1_f (s_X7_take_1_f (s_X7_take_0_Z Z (upd f 52 ((f 52) + 1))) (s_X7_take_0_f Z (upd f 52 ((f 52) + 1)))))) (upd (t_X7_tick_3_f (s_X7_take_1_Z (s_X7_take_0_Z Z (upd f 52 ((f 52) + 1))) (s_X7_take_0_f Z (upd f 52 ((f 52) + 1)))) (t_X7_tick_1_f (s_X7_take_1_f (s_X7_take_0_Z Z (upd f 52 ((f 52) + 1))) (s_X7_take_0_f Z (upd f 52 ((f 52) + 1)))))) 25 (r_X7_max (((t_X7_tick_3_f (s_X7_take_1_Z (s_X7_take_0_Z Z (upd f 52 ((f 52) + 1))) (s_X7_take_0_f Z (upd f 52 ((f 52) + 1)))) (t_X7_tick_1_f (s_X7_take_1_f (s_X7_take_0_Z Z (upd f 52 ((f 52) + 1))) (s_X7_take_0_f Z (upd f 52 ((f 52) + 1)))))) 25) - 1) 0))) 5 = 2 then (if (s_X7_sendOn_1_f (t_X7_tick_3_Z (s_X7_take_1_Z (s_X7_take_0_Z Z (upd f 52 ((f 52) + 1))) (s_X7_take_0_f Z (upd f 52 ((f 52) + 1)))) (t_X7_tick_1_f (s_X7_take_1_f (s_X7_take_0_Z Z (upd f 52 ((f 52) + 1))) (s_X7_take_0_f Z (upd f 52 ((f 52) + 1)))))) (upd (t_X7_tick_3_f (s_X7_take_1_Z (s_X7_take_0_Z Z (upd f 52 ((f 52) + 1))) (s_X7_take_0_f Z (upd f 52 ((f 52) + 1)))) (t_X7_tick_1_f (s_X7_take_1_f (s_X7_take_0_Z Z (upd f 52 ((f 52) + 1))) (s_X7_take_0_f Z (upd f 52 ((f 52) + 1)))))) 25 (r_X7_max (((t_X7_tick_3_f (s_X7_take_1_Z (s_X7_take_0_Z Z (upd f 52 ((f 52) + 1))) (s_X7_take_0_f Z (upd f 52 ((f 52) + 1)))) (t_X7_tick_1_f (s_X7_take_1_f (s_X7_take_0_Z Z (upd f 52 ((f 52) + 1))) (s_X7_take_0_f Z (upd f 52 ((f 52) + 1)))))) 25) - 1) 0))) 21 = 2 then (upd (s_X7_sendOn_1_f (t_X7_tick_3_Z (s_X7_take_1_Z (s_X7_take_0_Z Z (upd f 52 ((f 52) + 1))) (s_X7_take_0_f Z (upd f 52 ((f 52) + 1)))) (t_X7_tick_1_f (s_X7_take_1_f (s_X7_take_0_Z Z (upd f 52 ((f 52) + 1))) (s_X7_take_0_f Z (upd f 52 ((f 52) + 1)))))) (upd (t_X7_tick_3_f (s_X7_take_1_Z (s_X7_take_0_Z Z (upd f 52 ((f 52) + 1))) (s_X7_take_0_f Z (upd f 52 ((f 52) + 1)))) (t_X7_tick_1_f (s_X7_take_1_f (s_X7_take_0_Z Z (upd f 52 ((f 52) + 1))) (s_X7_take_0_f Z (upd f 52 ((f 52) + 1)))))) 25 (r_X7_max (((t_X7_tick_3_f (s_X7_take_1_Z (s_X7_take_0_Z Z (upd f 52 ((f 52) + 1))) (s_X7_take_0_f Z (upd f 52 ((f 52) + 1)))) (t_X7_tick_1_f (s_X7_take_1_f (s_X7_take_0_Z Z (upd f 52 ((f 52) + 1))) (s_X7_take_0_f Z (upd f 52 ((f 52) + 1)))))) 25) - 1) 0))) 54 (((s_X7_sendOn_1_f (t_X7_tick_3_Z (s_X7_take_1_Z (s_X7_take_0_Z Z (upd f 52 ((f 52) + 1))) (s_X7_take_0_f Z (upd f 52 ((f 52) + 1)))) (t_X7_tick_1_f (s_X7_take_1_f (s_X7_take_0_Z Z (upd f 52 ((f 52) + 1))) (s_X7_take_0_f Z (upd f 52 ((f 52) + 1)))))) (upd (t_X7_tick_3_f (s_X7_take_1_Z (s_X7_take_0_Z Z (upd f 52 ((f 52) + 1))) (s_X7_take_0_f Z (upd f 52 ((f 52) + 1)))) (t_X7_tick_1_f (s_X7_take_1_f (s_X7_take_0_Z Z (upd f 52 ((f 52) + 1))) (s_X7_take_0_f Z (upd f 52 ((f 52) + 1)))))) 25 (r_X7_max (((t_X7_tick_3_f (s_X7_take_1_Z (s_X7_take_0_Z Z (upd f 52 ((f 52) + 1))) (s_X7_take_0_f Z (upd f 52 ((f 52) + 1)))) (t_X7_tick_1_f (s_X7_take_1_f (s_X7_take_0_Z Z (upd f 52 ((f 52) + 1))) (s_X7_take_0_f Z (upd f 52 ((f 52) + 1)))))) 25) - 1) 0))) 54) + 1)) else upd (s_X7_sendOn_1_f (t_X7_tick_3_Z (s_X7_take_1_Z (s_X7_take_0_Z Z (upd f 52 ((f 52) + 1))) (s_X7_take_0_f Z (upd f 52 ((f 52) + 1)))) (t_X7_tick_1_f (s_X7_take_1_f (s_X7_take_0_Z Z (upd f 52 ((f 52) + 1))) (s_X7_take_0_f Z (upd f 52 ((f 52) + 1)))))) (upd (t_X7_tick_3_f (s_X7_take_1_Z (s_X7_take_0_Z Z (upd f 52 ((f 52) + 1))) (s_X7_take_0_f Z (upd f 52 ((f 52) + 1)))) (t_X7_tick_1_f (s_X7_take_1_f (s_X7_take_0_Z Z (upd f 52 ((f 52) + 1))) (s_X7_take_0_f Z (upd f 52 ((f 52) + 1)))))) 25 (r_X7_max (((t_X7_tick_3_f (s_X7_take_1_Z (s_X7_take_0_Z Z (upd f 52 ((f 52) + 1))) (s_X7_take_0_f Z (upd f 52 ((f 52) + 1)))) (t_X7_tick_1_f (s_X7_take_1_f (s_X7_take_0_Z Z (upd f 52 ((f 52) + 1))) (s_X7_take_0_f Z (upd f 52 ((f 52) + 1)))))) 25) - 1) 0))) 54 (((s_X7_sendOn_1_f (t_X7_tick_3_Z (s_X7_take_1_Z (s_X7_take_0_Z Z (upd f 52 ((f 52) + 1))) (s_X7_take_0_f Z (upd f 52 ((f 52) + 1)))) (t_X7_tick_1_f (s_X7_take_1_f (s_X7_take_0_Z Z (upd f 52 ((f 52) + 1))) (s_X7_take_0_f Z (upd f 52 ((f 52) + 1)))))) (upd (t_X7_tick_3_f (s_X7_take_1_Z (s_X7_take_0_Z Z (upd f 52 ((f 52) + 1))) (s_X7_take_0_f Z (upd f 52 ((f 52) + 1)))) (t_X7_tick_1_f (s_X7_take_1_f (s_X7_take_0_Z Z (upd f 52 ((f 52) + 1))) (s_X7_take_0_f Z (upd f 52 ((f 52) + 1)))))) 25 (r_X7_max (((t_X7_tick_3_f (s_X7_take_1_Z (s_X7_take_0_Z Z (upd f 52 ((f 52) + 1))) (s_X7_take_0_f Z (upd f 52 ((f 52) + 1)))) (t_X7_tick_1_f (s_X7_take_1_f (s_X7_take_0_Z Z (upd f 52 ((f 52) + 1))) (s_X7_take_0_f Z (upd f 52 ((f 52) + 1)))))) 25) - 1) 0))) 54) + 0)) else upd (s_X7_sendOn_1_f (t_X7_tick_3_Z (s_X7_take_1_Z (s_X7_take_0_Z Z (upd f 52 ((f 52) + 1))) (s_X7_take_0_f Z (upd f 52 ((f 52) + 1)))) (t_X7_tick_1_f (s_X7_take_1_f (s_X7_take_0_Z Z (upd f 52 ((f 52) + 1))) (s_X7_take_0_f Z (upd f 52 ((f 52) + 1)))))) (upd (t_X7_tick_3_f (s_X7_take_1_Z (s_X7_take_0_Z Z (upd f 52 ((f 52) + 1))) (s_X7_take_0_f Z (upd f 52 ((f 52) + 1)))) (t_X7_tick_1_f (s_X7_take_1_f (s_X7_take_0_Z Z (upd f 52 ((f 52) + 1))) (s_X7_take_0_f Z (upd f 52 ((f 52) + 1)))))) 25 (r_X7_max (((t_X7_tick_3_f (s_X7_take_1_Z (s_X7_take_0_Z Z (upd f 52 ((f 52) + 1))) (s_X7_take_0_f Z (upd f 52 ((f 52) + 1)))) (t_X7_tick_1_f (s_X7_take_1_f (s_X7_take_0_Z Z (upd f 52 ((f 52) + 1))) (s_X7_take_0_f Z (upd f 52 ((f 52) + 1)))))) 25) - 1) 0))) 54 (((s_X7_sendOn_1_f (t_X7_tick_3_Z (s_X7_take_1_Z (s_X7_take_0_Z Z (upd f 52 ((f 52) + 1))) (s_X7_take_0_f Z (upd f 52 ((f 52) + 1)))) (t_X7_tick_1_f (s_X7_take_1_f (s_X7_take_0_Z Z (upd f 52 ((f 52) + 1))) (s_X7_take_0_f Z (upd f 52 ((f 52) + 1)))))) (upd (t_X7_tick_3_f (s_X7_take_1_Z (s_X7_take_0_Z Z (upd f 52 ((f 52) + 1))) (s_X7_take_0_f Z (upd f 52 ((f 52) + 1)))) (t_X7_tick_1_f (s_X7_take_1_f (s_X7_take_0_Z Z (upd f 52 ((f 52) + 1))) (s_X7_take_0_f Z (upd f 52 ((f 52) + 1)))))) 25 (r_X7_max (((t_X7_tick_3_f (s_X7_take_1_Z (s_X7_take_0_Z Z (upd f 52 ((f 52) + 1))) (s_X7_take_0_f Z (upd f 52 ((f 52) + 1)))) (t_X7_tick_1_f (s_X7_take_1_f (s_X7_take_0_Z Z (upd f 52 ((f 52) + 1))) (s_X7_take_0_f Z (upd f 52 ((f 52) + 1)))))) 25) - 1) 0))) 54) + 0)) else if (r_X7_max (((t_X7_tick_3_f (s_X7_take_1_Z (s_X7_take_0_Z Z (upd f 52 ((f 52) + 1))) (s_X7_take_0_f Z (upd f 52 ((f 52) + 1)))) (t_X7_tick_1_f (s_X7_take_1_f (s_X7_take_0_Z Z (upd f 52 ((f 52) + 1))) (s_X7_take_0_f Z (upd f 52 ((f 52) + 1)))))) 25) - 1) 0) = 0 then (if (r_X7_isStill_16 (upd (t_X7_tick_3_f (s_X7_take_1_Z (s_X7_take_0_Z Z (upd f 52 ((f 52) + 1))) (s_X7_take_0_f Z (upd f 52 ((f 52) + 1)))) (t_X7_tick_1_f (s_X7_take_1_f (s_X7_take_0_Z Z (upd f 52 ((f 52) + 1))) (s_X7_take_0_f Z (upd f 52 ((f 52) + 1)))))) 25 (r_X7_max (((t_X7_tick_3_f (s_X7_take_1_Z (s_X7_take_0_Z Z (upd f 52 ((f 52) + 1))) (s_X7_take_0_f Z (upd f 52 ((f 52) + 1)))) (t_X7_tick_1_f (s_X7_take_1_f (s_X7_take_0_Z Z (upd f 52 ((f 52) + 1))) (s_X7_take_0_f Z (upd f 52 ((f 52) + 1)))))) 25) - 1) 0))) = 0 then (if (s_X7_sendOn_1_f (t_X7_tick_3_Z (s_X7_take_1_Z (s_X7_take_0_Z Z (upd f 52 ((f 52) + 1))) (s_X7_take_0_f Z (upd f 52 ((f 52) + 1)))) (t_X7_tick_1_f (s_X7_take_1_f (s_X7_take_0_Z Z (upd f 52 ((f 52) + 1))) (s_X7_take_0_f Z (upd f 52 ((f 52) + 1)))))) (upd (t_X7_tick_3_f (s_X7_take_1_Z (s_X7_take_0_Z Z (upd f 52 ((f 52) + 1))) (s_X7_take_0_f Z (upd f 52 ((f 52) + 1)))) (t_X7_tick_1_f (s_X7_take_1_f (s_X7_take_0_Z Z (upd f 52 ((f 52) + 1))) (s_X7_take_0_f Z (upd f 52 ((f 52) + 1)))))) 25 (r_X7_max (((t_X7_tick_3_f (s_X7_take_1_Z (s_X7_take_0_Z Z (upd f 52 ((f 52) + 1))) (s_X7_take_0_f Z (upd f 52 ((f 52) + 1)))) (t_X7_tick_1_f (s_X7_take_1_f (s_X7_take_0_Z Z (upd f 52 ((f 52) + 1))) (s_X7_take_0_f Z (upd f 52 ((f 52) + 1)))))) 25) - 1) 0))) 5 = 2 then (if (s_X7_sendOn_1_f (t_X7_tick_3_Z (s_X7_take_1_Z (s_X7_take_0_Z Z (upd f 52 ((f 52) + 1))) (s_X7_take_0_f Z (upd f 52 ((f 52) + 1)))) (t_X7_tick_1_f (s_X7_take_1_f (s_X7_take_0_Z Z (upd f 52 ((f 52) + 1))) (s_X7_take_0_f Z (upd f 52 ((f 52) + 1)))))) (upd (t_X7_tick_3_f (s_X7_take_1_Z (s_X7_take_0_Z Z (upd f 52 ((f 52) + 1))) (s_X7_take_0_f Z (upd f 52 ((f 52) + 1)))) (t_X7_tick_1_f (s_X7_take_1_f (s_X7_take_0_Z Z (upd f 52 ((f 52) + 1))) (s_X7_take_0_f Z (upd f 52 ((f 52) + 1)))))) 25 (r_X7_max (((t_X7_tick_3_f (s_X7_take_1_Z (s_X7_take_0_Z Z (upd f 52 ((f 52) + 1))) (s_X7_take_0_f Z (upd f 52 ((f 52) + 1)))) (t_X7_tick_1_f (s_X7_take_1_f (s_X7_take_0_Z Z (upd f 52 ((f 52) + 1))) (s_X7_take_0_f Z (upd f 52 ((f 52) + 1)))))) 25) - 1) 0))) 21 = 2 then (upd (s_X7_sendOn_1_f (t_X7_tick_3_Z (s_X7_take_1_Z (s_X7_take_0_Z Z (upd f 52 ((f 52) + 1))) (s_X7_take_0_f Z (upd f 52 ((f 52) + 1)))) (t_X7_tick_1_f (s_X7_take_1_f (s_X7_take_0_Z Z (upd f 52 ((f 52) + 1))) (s_X7_take_0_f Z (upd f 52 ((f 52) + 1)))))) (upd (t_X7_tick_3_f (s_X7_take_1_Z (s_X7_take_0_Z Z (upd f 52 ((f 52) + 1))) (s_X7_take_0_f Z (upd f 52 ((f 52) + 1)))) (t_X7_tick_1_f (s_X7_take_1_f (s_X7_take_0_Z Z (upd f 52 ((f 52) + 1))) (s_X7_take_0_f Z (upd f 52 ((f 52) + 1)))))) 25 (r_X7_max (((t_X7_tick_3_f (s_X7_take_1_Z (s_X7_take_0_Z Z (upd f 52 ((f 52) + 1))) (s_X7_take_0_f Z (upd f 52 ((f 52) + 1)))) (t_X7_tick_1_f (s_X7_take_1_f (s_X7_take_0_Z Z (upd f 52 ((f 52) + 1))) (s_X7_take_0_f Z (upd f 52 ((f 52) + 1)))))) 25) - 1) 0))) 54 (((s_X7_sendOn_1_f (t_X7_tick_3_Z (s_X7_take_1_Z (s_X7_take_0_Z Z (upd f 52 ((f 52) + 1))) (s_X7_take_0_f Z (upd f 52 ((f 52) + 1)))) (t_X7_tick_1_f (s_X7_take_1_f (s_X7_take_0_Z Z (upd f 52 ((f 52) + 1))) (s_X7_take_0_f Z (upd f 52 ((f 52) + 1)))))) (upd (t_X7_tick_3_f (s_X7_take_1_Z (s_X7_take_0_Z Z (upd f 52 ((f 52) + 1))) (s_X7_take_0_f Z (upd f 52 ((f 52) + 1)))) (t_X7_tick_1_f (s_X7_take_1_f (s_X7_take_0_Z Z (upd f 52 ((f 52) + 1))) (s_X7_take_0_f Z (upd f 52 ((f 52) + 1)))))) 25 (r_X7_max (((t_X7_tick_3_f (s_X7_take_1_Z (s_X7_take_0_Z Z (upd f 52 ((f 52) + 1))) (s_X7_take_0_f Z (upd f 52 ((f 52) + 1)))) (t_X7_tick_1_f (s_X7_take_1_f (s_X7_take_0_Z Z (upd f 52 ((f 52) + 1))) (s_X7_take_0_f Z (upd f 52 ((f 52) + 1)))))) 25) - 1) 0))) 54) + 1)) else upd (s_X7_sendOn_1_f (t_X7_tick_3_Z (s_X7_take_1_Z (s_X7_take_0_Z Z (upd f 52 ((f 52) + 1))) (s_X7_take_0_f Z (upd f 52 ((f 52) + 1)))) (t_X7_tick_1_f (s_X7_take_1_f (s_X7_take_0_Z Z (upd f 52 ((f 52) + 1))) (s_X7_take_0_f Z (upd f 52 ((f 52) + 1)))))) (upd (t_X7_tick_3_f (s_X7_take_1_Z (s_X7_take_0_Z Z (upd f 52 ((f 52) + 1))) (s_X7_take_0_f Z (upd f 52 ((f 52) + 1)))) (t_X7_tick_1_f (s_X7_take_1_f (s_X7_take_0_Z Z (upd f 52 ((f 52) + 1))) (s_X7_take_0_f Z (upd f 52 ((f 52) + 1)))))) 25 (r_X7_max (((t_X7_tick_3_f (s_X7_take_1_Z (s_X7_take_0_Z Z (upd f 52 ((f 52) + 1))) (s_X7_take_0_f Z (upd f 52 ((f 52) + 1)))) (t_X7_tick_1_f (s_X7_take_1_f (s_X7_take_0_Z Z (upd f 52 ((f 52) + 1))) (s_X7_take_0_f Z (upd f 52 ((f 52) + 1)))))) 25) - 1) 0))) 54 (((s_X7_sendOn_1_f (t_X7_tick_3_Z (s_X7_take_1_Z (s_X7_take_0_Z Z (upd f 52 ((f 52) + 1))) (s_X7_take_0_f Z (upd f 52 ((f 52) + 1)))) (t_X7_tick_1_f (s_X7_take_1_f (s_X7_take_0_Z Z (upd f 52 ((f 52) + 1))) (s_X7_take_0_f Z (upd f 52 ((f 52) + 1)))))) (upd (t_X7_tick_3_f (s_X7_take_1_Z (s_X7_take_0_Z Z (upd f 52 ((f 52) + 1))) (s_X7_take_0_f Z (upd f 52 ((f 52) + 1)))) (t_X7_tick_1_f (s_X7_take_1_f (s_X7_take_0_Z Z (upd f 52 ((f 52) + 1))) (s_X7_take_0_f Z (upd f 52 ((f 52) + 1)))))) 25 (r_X7_max (((t_X7_tick_3_f (s_X7_take_1_Z (s_X7_take_0_Z Z (upd f 52 ((f 52) + 1))) (s_X7_take_0_f Z (upd f 52 ((f 52) + 1)))) (t_X7_tick_1_f (s_X7_take_1_f (s_X7_take_0_Z Z (upd f 52 ((f 52) + 1))) (s_X7_take_0_f Z (upd f 52 ((f 52) + 1)))))) 25) - 1) 0))) 54) + 0)) else upd (s_X7_sendOn_1_f (t_X7_tick_3_Z (s_X7_take_1_Z (s_X7_take_0_Z Z (upd f 52 ((f 52) + 1))) (s_X7_take_0_f Z (upd f 52 ((f 52) + 1)))) (t_X7_tick_1_f (s_X7_take_1_f (s_X7_take_0_Z Z (upd f 52 ((f 52) + 1))) (s_X7_take_0_f Z (upd f 52 ((f 52) + 1)))))) (upd (t_X7_tick_3_f (s_X7_take_1_Z (s_X7_take_0_Z Z (upd f 52 ((f 52) + 1))) (s_X7_take_0_f Z (upd f 52 ((f 52) + 1)))) (t_X7_tick_1_f (s_X7_take_1_f (s_X7_take_0_Z Z (upd f 52 ((f 52) + 1))) (s_X7_take_0_f Z (upd f 52 ((f 52) + 1)))))) 25 (r_X7_max (((t_X7_tick_3_f (s_X7_take_1_Z (s_X7_take_0_Z Z (upd f 52 ((f 52) + 1))) (s_X7_take_0_f Z (upd f 52 ((f 52) + 1)))) (t_X7_tick_1_f (s_X7_take_1_f (s_X7_take_0_Z Z (upd f 52 ((f 52) + 1))) (s_X7_take_0_f Z (upd f 52 ((f 52) + 1)))))) 25) - 1) 0))) 54 (((s_X7_sendOn_1_f (t_X7_tick_3_Z (s_X7_take_1_Z (s_X7_take_0_Z Z (upd f 52 ((f 52) + 1))) (s_X7_take_0_f Z (upd f 52 ((f 52) + 1)))) (t_X7_tick_1_f (s_X7_take_1_f (s_X7_take_0_Z Z (upd f 52 ((f 52) + 1))) (s_X7_take_0_f Z (upd f 52 ((f 52) + 1)))))) (upd (t_X7_tick_3_f (s_X7_take_1_Z (s_X7_take_0_Z Z (upd f 52 ((f 52) + 1))) (s_X7_take_0_f Z (upd f 52 ((f 52) + 1)))) (t_X7_tick_1_f (s_X7_take_1_f (s_X7_take_0_Z Z (upd f 52 ((f 52) + 1))) (s_X7_take_0_f Z (upd f 52 ((f 52) + 1)))))) 25 (r_X7_max (((t_X7_tick_3_f (s_X7_take_1_Z (s_X7_take_0_Z Z (upd f 52 ((f 52) + 1))) (s_X7_take_0_f Z (upd f 52 ((f 52) + 1)))) (t_X7_tick_1_f (s_X7_take_1_f (s_X7_take_0_Z Z (upd f 52 ((f 52) + 1))) (s_X7_take_0_f Z (upd f 52 ((f 52) + 1)))))) 25) - 1) 0))) 54) + 0)) else if (t_X7_tick_3_f (s_X7_take_1_Z (s_X7_take_0_Z Z (upd f 52 ((f 52) + 1))) (s_X7_take_0_f Z (upd f 52 ((f 52) + 1)))) (t_X7_tick_1_f (s_X7_take_1_f (s_X7_take_0_Z Z (upd f 52 ((f 52) + 1))) (s_X7_take_0_f Z (upd f 52 ((f 52) + 1)))))) 5 = 2 then (if (t_X7_tick_3_f (s_X7_take_1_Z (s_X7_take_0_Z Z (upd f 52 ((f 52) + 1))) (s_X7_take_0_f Z (upd f 52 ((f 52) + 1)))) (t_X7_tick_1_f (s_X7_take_1_f (s_X7_take_0_Z Z (upd f 52 ((f 52) + 1))) (s_X7_take_0_f Z (upd f 52 ((f 52) + 1)))))) 21 = 2 then (upd (upd (t_X7_tick_3_f (s_X7_take_1_Z (s_X7_take_0_Z Z (upd f 52 ((f 52) + 1))) (s_X7_take_0_f Z (upd f 52 ((f 52) + 1)))) (t_X7_tick_1_f (s_X7_take_1_f (s_X7_take_0_Z Z (upd f 52 ((f 52) + 1))) (s_X7_take_0_f Z (upd f 52 ((f 52) + 1)))))) 25 (r_X7_max (((t_X7_tick_3_f (s_X7_take_1_Z (s_X7_take_0_Z Z (upd f 52 ((f 52) + 1))) (s_X7_take_0_f Z (upd f 52 ((f 52) + 1)))) (t_X7_tick_1_f (s_X7_take_1_f (s_X7_take_0_Z Z (upd f 52 ((f 52) + 1))) (s_X7_take_0_f Z (upd f 52 ((f 52) + 1)))))) 25) - 1) 0)) 54 (((t_X7_tick_3_f (s_X7_take_1_Z (s_X7_take_0_Z Z (upd f 52 ((f 52) + 1))) (s_X7_take_0_f Z (upd f 52 ((f 52) + 1)))) (t_X7_tick_1_f (s_X7_take_1_f (s_X7_take_0_Z Z (upd f 52 ((f 52) + 1))) (s_X7_take_0_f Z (upd f 52 ((f 52) + 1)))))) 54) + 1)) else upd (upd (t_X7_tick_3_f (s_X7_take_1_Z (s_X7_take_0_Z Z (upd f 52 ((f 52) + 1))) (s_X7_take_0_f Z (upd f 52 ((f 52) + 1)))) (t_X7_tick_1_f (s_X7_take_1_f (s_X7_take_0_Z Z (upd f 52 ((f 52) + 1))) (s_X7_take_0_f Z (upd f 52 ((f 52) + 1)))))) 25 (r_X7_max (((t_X7_tick_3_f (s_X7_take_1_Z (s_X7_take_0_Z Z (upd f 52 ((f 52) + 1))) (s_X7_take_0_f Z (upd f 52 ((f 52) + 1)))) (t_X7_tick_1_f (s_X7_take_1_f (s_X7_take_0_Z Z (upd f 52 ((f 52) + 1))) (s_X7_take_0_f Z (upd f 52 ((f 52) + 1)))))) 25) - 1) 0)) 54 (((t_X7_tick_3_f (s_X7_take_1_Z (s_X7_take_0_Z Z (upd f 52 ((f 52) + 1))) (s_X7_take_0_f Z (upd f 52 ((f 52) + 1)))) (t_X7_tick_1_f (s_X7_take_1_f (s_X7_take_0_Z Z (upd f 52 ((f 52) + 1))) (s_X7_take_0_f Z (upd f 52 ((f 52) + 1)))))) 54) + 0)) else upd (upd (t_X7_tick_3_f (s_X7_take_1_Z (s_X7_take_0_Z Z (upd f 52 ((f 52) + 1))) (s_X7_take_0_f Z (upd f 52 ((f 52) + 1)))) (t_X7_tick_1_f (s_X7_take_1_f (s_X7_take_0_Z Z (upd f 52 ((f 52) + 1))) (s_X7_take_0_f Z (upd f 52 ((f 52) + 1)))))) 25 (r_X7_max (((t_X7_tick_3_f (s_X7_take_1_Z (s_X7_take_0_Z Z (upd f 52 ((f 52) + 1))) (s_X7_take_0_f Z (upd f 52 ((f 52) + 1)))) (t_X7_tick_1_f (s_X7_take_1_f (s_X7_take_0_Z Z (upd f 52 ((f 52) + 1))) (s_X7_take_0_f Z (upd f 52 ((f 52) + 1)))))) 25) - 1) 0)) 54 (((t_X7_tick_3_f (s_X7_take_1_Z (s_X7_take_0_Z Z (upd f 52 ((f 52) + 1))) (s_X7_take_0_f Z (upd f 52 ((f 52) + 1)))) (t_X7_tick_1_f (s_X7_take_1_f (s_X7_take_0_Z Z (upd f 52 ((f 52) + 1))) (s_X7_take_0_f Z (upd f 52 ((f 52) + 1)))))) 54) + 0)) else if (t_X7_tick_3_f (s_X7_take_1_Z (s_X7_take_0_Z Z (upd f 52 ((f 52) + 1))) (s_X7_take_0_f Z (upd f 52 ((f 52) + 1)))) (t_X7_tick_1_f (s_X7_take_1_f (s_X7_take_0_Z Z (upd f 52 ((f 52) + 1))) (s_X7_take_0_f Z (upd f 52 ((f 52) + 1)))))) 5 = 2 then (if (t_X7_tick_3_f (s_X7_take_1_Z (s_X7_take_0_Z Z (upd f 52 ((f 52) + 1))) (s_X7_take_0_f Z (upd f 52 ((f 52) + 1)))) (t_X7_tick_1_f (s_X7_take_1_f (s_X7_take_0_Z Z (upd f 52 ((f 52) + 1))) (s_X7_take_0_f Z (upd f 52 ((f 52) + 1)))))) 21 = 2 then (upd (upd (t_X7_tick_3_f (s_X7_take_1_Z (s_X7_take_0_Z Z (upd f 52 ((f 52) + 1))) (s_X7_take_0_f Z (upd f 52 ((f 52) + 1)))) (t_X7_tick_1_f (s_X7_take_1_f (s_X7_take_0_Z Z (upd f 52 ((f 52) + 1))) (s_X7_take_0_f Z (upd f 52 ((f 52) + 1)))))) 25 (r_X7_max (((t_X7_tick_3_f (s_X7_take_1_Z (s_X7_take_0_Z Z (upd f 52 ((f 52) + 1))) (s_X7_take_0_f Z (upd f 52 ((f 52) + 1)))) (t_X7_tick_1_f (s_X7_take_1_f (s_X7_take_0_Z Z (upd f 52 ((f 52) + 1))) (s_X7_take_0_f Z (upd f 52 ((f 52) + 1)))))) 25) - 1) 0)) 54 (((t_X7_tick_3_f (s_X7_take_1_Z (s_X7_take_0_Z Z (upd f 52 ((f 52) + 1))) (s_X7_take_0_f Z (upd f 52 ((f 52) + 1)))) (t_X7_tick_1_f (s_X7_take_1_f (s_X7_take_0_Z Z (upd f 52 ((f 52) + 1))) (s_X7_take_0_f Z (upd f 52 ((f 52) + 1)))))) 54) + 1)) else upd (upd (t_X7_tick_3_f (s_X7_take_1_Z (s_X7_take_0_Z Z (upd f 52 ((f 52) + 1))) (s_X7_take_0_f Z (upd f 52 ((f 52) + 1)))) (t_X7_tick_1_f (s_X7_take_1_f (s_X7_take_0_Z Z (upd f 52 ((f 52) + 1))) (s_X7_take_0_f Z (upd f 52 ((f 52) + 1)))))) 25 (r_X7_max (((t_X7_tick_3_f (s_X7_take_1_Z (s_X7_take_0_Z Z (upd f 52 ((f 52) + 1))) (s_X7_take_0_f Z (upd f 52 ((f 52) + 1)))) (t_X7_tick_1_f (s_X7_take_1_f (s_X7_take_0_Z Z (upd f 52 ((f 52) + 1))) (s_X7_take_0_f Z (upd f 52 ((f 52) + 1)))))) 25) - 1) 0)) 54 (((t_X7_tick_3_f (s_X7_take_1_Z (s_X7_take_0_Z Z (upd f 52 ((f 52) + 1))) (s_X7_take_0_f Z (upd f 52 ((f 52) + 1)))) (t_X7_tick_1_f (s_X7_take_1_f (s_X7_take_0_Z Z (upd f 52 ((f 52) + 1))) (s_X7_take_0_f Z (upd f 52 ((f 52) + 1)))))) 54) + 0)) else upd (upd (t_X7_tick_3_f (s_X7_take_1_Z (s_X7_take_0_Z Z (upd f 52 ((f 52) + 1))) (s_X7_take_0_f Z (upd f 52 ((f 52) + 1)))) (t_X7_tick_1_f (s_X7_take_1_f (s_X7_take_0_Z Z (upd f 52 ((f 52) + 1))) (s_X7_take_0_f Z (upd f 52 ((f 52) + 1)))))) 25 (r_X7_max (((t_X7_tick_3_f (s_X7_take_1_Z (s_X7_take_0_Z Z (upd f 52 ((f 52) + 1))) (s_X7_take_0_f Z (upd f 52 ((f 52) + 1)))) (t_X7_tick_1_f (s_X7_take_1_f (s_X7_take_0_Z Z (upd f 52 ((f 52) + 1))) (s_X7_take_0_f Z (upd f 52 ((f 52) + 1)))))) 25) - 1) 0)) 54 (((t_X7_tick_3_f (s_X7_take_1_Z (s_X7_take_0_Z Z (upd f 52 ((f 52) + 1))) (s_X7_take_0_f Z (upd f 52 ((f 52) + 1)))) (t_X7_tick_1_f (s_X7_take_1_f (s_X7_take_0_Z Z (upd f 52 ((f 52) + 1))) (s_X7_take_0_f Z (upd f 52 ((f 52) + 1)))))) 54) + 0)
set_option maxHeartbeats 4000000 in
set_option maxRecDepth 100000 in
theorem c_X7_tick (l : Launch) (G : kG) (Z : Nat → Int32) (sd : Int64) (h0 : Nat) (q1 : Nat) (q2 : Nat) (q3 : Nat) (q4 : Nat) (q5 : Nat) (q6 : Nat) (q7 : Nat) (q8 : Nat) (q9 : Nat) (q10 : Nat) (q11 : Nat) (f : Nat → Int32) (h1 : Nat) : cG l G yX7_tick cX7_tick 4 none 4 [.ref h0, .ref h1] ([(h0, .inr (7, cM Z q1 q2 q3 q4 q5 q6 q7 q8 q9 q10 q11 sd)), (h1, .inl (G.2.1, 55, .inl f))]) (qV G (fun u : ((Nat → Int32) × (Nat → Int32)) => u.1 = s_X7_tick_Z Z f ∧ u.2 = s_X7_tick_f Z f) (fun u => [(h0, .inr (7, cM u.1 q1 q2 q3 q4 q5 q6 q7 q8 q9 q10 q11 sd)), (h1, .inl (G.2.1, 55, .inl u.2))])) := by
  refine kintro (by decide) (Nat.le_of_ble_eq_true rfl) ?_
  intro p e s m args below meth c A ls kx hK hP hD hS hA hl
  have kx : kX p s m args meth c cX7_tick 4 none RX7 := kx
  have hx := kx.1
  have hb := kx.2.1
  have hown := kx.2.2.2.2.1
  have ht := kx.2.2.2.2.2.2
  have hl : lv_has ls 4 [(0, .ref h0), (1, .ref h1)] := hl
  refine lv_aload_n hx hb dX7_tick_0 rfl (lv_at hl 1 rfl) ?_
  refine lv_bipush (v := 52) hx hb dX7_tick_1 (by decide) ?_
  refine lv_dup2_11 hx hb dX7_tick_3 rfl rfl ?_
  refine k_iald (v := (f 52)) kx hK hP 1 rfl 52 rfl (by decide) (by decide) rfl dX7_tick_4 ?_
  refine lv_iconst (v := 1) hx hb dX7_tick_5 (by decide) ?_
  refine lv_iadd hx hb dX7_tick_6 ?_
  refine k_iast kx hK hP hD hS 1 rfl 52 rfl (by decide) (by decide) dX7_tick_7 (fun H1 locs1 hP1 hD1 hS1 => ?_)
  have hP2 : va_P G.1 vwCl ([(h0, .inr (7, cM Z q1 q2 q3 q4 q5 q6 q7 q8 q9 q10 q11 sd)), (h1, .inl (G.2.1, 55, .inl (upd f 52 ((f 52) + 1))))]) H1 := hP1
  have hD3 : va_D A ([(h0, .inr (7, cM Z q1 q2 q3 q4 q5 q6 q7 q8 q9 q10 q11 sd)), (h1, .inl (G.2.1, 55, .inl (upd f 52 ((f 52) + 1))))]) := hD1
  refine lv_aload_n hx hb dX7_tick_8 rfl (lv_at hl 0 rfl) ?_
  refine lv_aload_n hx hb dX7_tick_9 rfl (lv_at hl 1 rfl) ?_
  refine lv_iconst (v := 0) hx hb dX7_tick_10 (by decide) ?_
  refine k_callv (kRunV (As := [.ref h1, .int 0]) (rest := []) kx (c_X7_take_0 l G Z sd h0 q1 q2 q3 q4 q5 q6 q7 q8 q9 q10 q11 (upd f 52 ((f 52) + 1)) h1) q_786 q_783 q_36 q_785 q_19 nX7_take ⟨Nat.le_of_ble_eq_true rfl, Nat.le_of_ble_eq_true rfl⟩ hK hP2 hD3 (kCtx_all _) 0 7 rfl rfl rfl rfl hl.1 (Nat.le_of_ble_eq_true rfl) dX7_tick_11 ⟨Nat.zero_le _, Nat.zero_le _⟩) hP2 hD3 hS1 hA (kCtx_all _) (fun _ => rfl) (fun u H4 locs4 hw hP4 hD4 hS4 => ?_)
  obtain ⟨F2, F3⟩ := u
  obtain ⟨hF2, hF3⟩ := hw
  have hF2 : s_X7_take_0_Z Z (upd f 52 ((f 52) + 1)) = F2 := (show F2 = s_X7_take_0_Z Z (upd f 52 ((f 52) + 1)) from hF2).symm
  have hF3 : s_X7_take_0_f Z (upd f 52 ((f 52) + 1)) = F3 := (show F3 = s_X7_take_0_f Z (upd f 52 ((f 52) + 1)) from hF3).symm
  have hP5 : va_P G.1 vwCl ([(h0, .inr (7, cM F2 q1 q2 q3 q4 q5 q6 q7 q8 q9 q10 q11 sd)), (h1, .inl (G.2.1, 55, .inl F3))]) H4 := hP4
  have hD6 : va_D A ([(h0, .inr (7, cM F2 q1 q2 q3 q4 q5 q6 q7 q8 q9 q10 q11 sd)), (h1, .inl (G.2.1, 55, .inl F3))]) := hD4
  refine lv_aload_n hx hb dX7_tick_14 rfl (lv_at hl 0 rfl) ?_
  refine lv_aload_n hx hb dX7_tick_15 rfl (lv_at hl 1 rfl) ?_
  refine lv_iconst (v := 1) hx hb dX7_tick_16 (by decide) ?_
  refine k_callv (kRunV (As := [.ref h1, .int 1]) (rest := []) kx (c_X7_take_1 l G F2 sd h0 q1 q2 q3 q4 q5 q6 q7 q8 q9 q10 q11 F3 h1) q_786 q_783 q_36 q_785 q_19 nX7_take ⟨Nat.le_of_ble_eq_true rfl, Nat.le_of_ble_eq_true rfl⟩ hK hP5 hD6 (kCtx_all _) 0 7 rfl rfl rfl rfl hl.1 (Nat.le_of_ble_eq_true rfl) dX7_tick_17 ⟨Nat.zero_le _, Nat.zero_le _⟩) hP5 hD6 hS4 hA (kCtx_all _) (fun _ => rfl) (fun u H7 locs7 hw hP7 hD7 hS7 => ?_)
  obtain ⟨F5, F6⟩ := u
  obtain ⟨hF5, hF6⟩ := hw
  have hF5 : s_X7_take_1_Z F2 F3 = F5 := (show F5 = s_X7_take_1_Z F2 F3 from hF5).symm
  have hF6 : s_X7_take_1_f F2 F3 = F6 := (show F6 = s_X7_take_1_f F2 F3 from hF6).symm
  have hP8 : va_P G.1 vwCl ([(h0, .inr (7, cM F5 q1 q2 q3 q4 q5 q6 q7 q8 q9 q10 q11 sd)), (h1, .inl (G.2.1, 55, .inl F6))]) H7 := hP7
  have hD9 : va_D A ([(h0, .inr (7, cM F5 q1 q2 q3 q4 q5 q6 q7 q8 q9 q10 q11 sd)), (h1, .inl (G.2.1, 55, .inl F6))]) := hD7
  refine lv_iconst (v := 0) hx hb dX7_tick_20 (by decide) ?_
  refine lv_istore_n (lv' := [(2, .int 0), (0, .ref h0), (1, .ref h1)]) hx hb dX7_tick_21 rfl hl (by decide) rfl (fun ls10 hl10 => ?_)
  have cut1 : ∀ (F14 : Nat → Int32) (H : Heap) (locs : List Loc) (ls : Array Slot), (hF14 : t_X7_tick_1_f F6 = F14) → va_P G.1 vwCl ([(h0, .inr (7, cM F5 q1 q2 q3 q4 q5 q6 q7 q8 q9 q10 q11 sd)), (h1, .inl (G.2.1, 55, .inl F14))]) H → va_D A ([(h0, .inr (7, cM F5 q1 q2 q3 q4 q5 q6 q7 q8 q9 q10 q11 sd)), (h1, .inl (G.2.1, 55, .inl F14))]) → va_S A s.heap H locs → lv_has ls 4 [(0, .ref h0), (1, .ref h1), (2, .int 1), (3, .int 0)] → W p l e (kr 4) s m args below meth c H locs 0 0 (MQ below (qV G (fun u : ((Nat → Int32) × (Nat → Int32)) => u.1 = s_X7_tick_Z Z f ∧ u.2 = s_X7_tick_f Z f) (fun u => [(h0, .inr (7, cM u.1 q1 q2 q3 q4 q5 q6 q7 q8 q9 q10 q11 sd)), (h1, .inl (G.2.1, 55, .inl u.2))]) A) args s 0 0 A) (F0 m 22 ls []) := by
    intro F14 H11 locs11 ls11 hF14 hP11 hD11 hS11 hl11
    refine lv_iload_n hx hb dX7_tick_22 rfl (lv_at hl11 2 rfl) ?_
    refine lv_iconst (v := 2) hx hb dX7_tick_23 (by decide) ?_
    refine lv_icmp_ge (x := 1) (y := 2) (tgt := 80) hx hb dX7_tick_24 (by decide) (fun (c15 : 2 ≤ 1) => absurd c15 (by decide)) (fun (c15 : ¬ (2 ≤ 1)) => ?_)
    refine lv_bipush (v := 16) hx hb dX7_tick_27 (by decide) ?_
    refine lv_iload_n hx hb dX7_tick_29 rfl (lv_at hl11 2 rfl) ?_
    refine lv_imul hx hb dX7_tick_30 ?_
    refine k_top (y := 16) (by decide +kernel) ?_
    refine lv_istore_n (lv' := [(3, .int 16), (0, .ref h0), (1, .ref h1), (2, .int 1)]) hx hb dX7_tick_31 rfl hl11 (by decide) rfl (fun ls12 hl12 => ?_)
    refine lv_aload_n hx hb dX7_tick_32 rfl (lv_at hl12 2 rfl) ?_
    refine lv_iload_n hx hb dX7_tick_33 rfl (lv_at hl12 0 rfl) ?_
    refine lv_iconst (v := 5) hx hb dX7_tick_34 (by decide) ?_
    refine lv_iadd hx hb dX7_tick_35 ?_
    refine k_top (y := 21) (by decide +kernel) ?_
    refine k_iald (v := (F14 21)) kx hK hP11 1 rfl 21 rfl (by decide) (by decide) rfl dX7_tick_36 ?_
    refine lv_if_eq (x := F14 21) (tgt := 74) hx hb dX7_tick_37 (by decide) (fun (c16 : F14 21 = 0) => ?_) (fun (c16 : ¬ (F14 21 = 0)) => ?_)
    · skip
      refine lv_iinc (v := 2) (lv' := [(2, .int 2), (3, .int 16), (0, .ref h0), (1, .ref h1)]) hx hb dX7_tick_74 hl12 (k := 3) rfl (by decide +kernel) (by decide) rfl (fun ls13 hl13 => ?_)
      refine lv_goto (tgt := 22) hx hb dX7_tick_77 (by decide) ?_
      refine lv_iload_n hx hb dX7_tick_22 rfl (lv_at hl13 0 rfl) ?_
      refine lv_iconst (v := 2) hx hb dX7_tick_23 (by decide) ?_
      refine lv_icmp_ge (x := 2) (y := 2) (tgt := 80) hx hb dX7_tick_24 (by decide) (fun (c17 : 2 ≤ 2) => ?_) (fun (c17 : ¬ (2 ≤ 2)) => absurd (by decide) c17)
      refine lv_iconst (v := 0) hx hb dX7_tick_80 (by decide) ?_
      refine lv_istore_n (lv' := [(2, .int 0), (3, .int 16), (0, .ref h0), (1, .ref h1)]) hx hb dX7_tick_81 rfl hl13 (by decide) rfl (fun ls14 hl14 => ?_)
      have cut2 : ∀ (F30 : Nat → Int32) (F31 : Nat → Int32) (H : Heap) (locs : List Loc) (ls : Array Slot), (hF30 : t_X7_tick_2_Z F5 F14 = F30) → (hF31 : t_X7_tick_2_f F5 F14 = F31) → va_P G.1 vwCl ([(h0, .inr (7, cM F30 q1 q2 q3 q4 q5 q6 q7 q8 q9 q10 q11 sd)), (h1, .inl (G.2.1, 55, .inl F31))]) H → va_D A ([(h0, .inr (7, cM F30 q1 q2 q3 q4 q5 q6 q7 q8 q9 q10 q11 sd)), (h1, .inl (G.2.1, 55, .inl F31))]) → va_S A s.heap H locs → lv_has ls 4 [(0, .ref h0), (1, .ref h1), (2, .int 1), (3, .int 0)] → W p l e (kr 4) s m args below meth c H locs 0 0 (MQ below (qV G (fun u : ((Nat → Int32) × (Nat → Int32)) => u.1 = s_X7_tick_Z Z f ∧ u.2 = s_X7_tick_f Z f) (fun u => [(h0, .inr (7, cM u.1 q1 q2 q3 q4 q5 q6 q7 q8 q9 q10 q11 sd)), (h1, .inl (G.2.1, 55, .inl u.2))]) A) args s 0 0 A) (F0 m 82 ls []) := by
        intro F30 F31 H15 locs15 ls15 hF30 hF31 hP15 hD15 hS15 hl15
        refine lv_iload_n hx hb dX7_tick_82 rfl (lv_at hl15 2 rfl) ?_
        refine lv_iconst (v := 2) hx hb dX7_tick_83 (by decide) ?_
        refine lv_icmp_ge (x := 1) (y := 2) (tgt := 149) hx hb dX7_tick_84 (by decide) (fun (c32 : 2 ≤ 1) => absurd c32 (by decide)) (fun (c32 : ¬ (2 ≤ 1)) => ?_)
        refine lv_bipush (v := 16) hx hb dX7_tick_87 (by decide) ?_
        refine lv_iload_n hx hb dX7_tick_89 rfl (lv_at hl15 2 rfl) ?_
        refine lv_imul hx hb dX7_tick_90 ?_
        refine k_top (y := 16) (by decide +kernel) ?_
        refine lv_istore_n (lv' := [(3, .int 16), (0, .ref h0), (1, .ref h1), (2, .int 1)]) hx hb dX7_tick_91 rfl hl15 (by decide) rfl (fun ls16 hl16 => ?_)
        refine lv_aload_n hx hb dX7_tick_92 rfl (lv_at hl16 2 rfl) ?_
        refine lv_iload_n hx hb dX7_tick_93 rfl (lv_at hl16 0 rfl) ?_
        refine lv_bipush (v := 9) hx hb dX7_tick_94 (by decide) ?_
        refine lv_iadd hx hb dX7_tick_96 ?_
        refine k_top (y := 25) (by decide +kernel) ?_
        refine lv_aload_n hx hb dX7_tick_97 rfl (lv_at hl16 2 rfl) ?_
        refine lv_iload_n hx hb dX7_tick_98 rfl (lv_at hl16 0 rfl) ?_
        refine lv_bipush (v := 9) hx hb dX7_tick_99 (by decide) ?_
        refine lv_iadd hx hb dX7_tick_101 ?_
        refine k_top (y := 25) (by decide +kernel) ?_
        refine k_iald (v := (F31 25)) kx hK hP15 1 rfl 25 rfl (by decide) (by decide) rfl dX7_tick_102 ?_
        refine lv_iconst (v := 1) hx hb dX7_tick_103 (by decide) ?_
        refine lv_isub hx hb dX7_tick_104 ?_
        refine lv_iconst (v := 0) hx hb dX7_tick_105 (by decide) ?_
        refine k_calli (kRunS (As := [.int ((F31 25) - 1), .int 0]) (rest := [.int 25, .ref h1]) kx (c_X7_max l G ((F31 25) - 1) 0) q_804 q_802 q_36 q_803 nX7_max ⟨Nat.le_of_ble_eq_true rfl, Nat.le_of_ble_eq_true rfl⟩ hK hP15 hD15 (kCtx_nil _) rfl hl16.1 (Nat.le_of_ble_eq_true rfl) dX7_tick_106 ⟨Nat.zero_le _, Nat.zero_le _⟩) hP15 hD15 hS15 hA (kCtx_nil _) (fun _ => rfl) (fun r33 _ H17 locs17 hw hP17 hD17 hS17 => ?_)
        have hr33 : r_X7_max ((F31 25) - 1) 0 = r33 := (show r33 = r_X7_max ((F31 25) - 1) 0 from hw).symm
        have hP18 : va_P G.1 vwCl ([(h0, .inr (7, cM F30 q1 q2 q3 q4 q5 q6 q7 q8 q9 q10 q11 sd)), (h1, .inl (G.2.1, 55, .inl F31))]) H17 := hP17
        have hD19 : va_D A ([(h0, .inr (7, cM F30 q1 q2 q3 q4 q5 q6 q7 q8 q9 q10 q11 sd)), (h1, .inl (G.2.1, 55, .inl F31))]) := hD17
        refine k_iast kx hK hP18 hD19 hS17 1 rfl 25 rfl (by decide) (by decide) dX7_tick_109 (fun H20 locs20 hP20 hD20 hS20 => ?_)
        have hP21 : va_P G.1 vwCl ([(h0, .inr (7, cM F30 q1 q2 q3 q4 q5 q6 q7 q8 q9 q10 q11 sd)), (h1, .inl (G.2.1, 55, .inl (upd F31 25 r33)))]) H20 := hP20
        have hD22 : va_D A ([(h0, .inr (7, cM F30 q1 q2 q3 q4 q5 q6 q7 q8 q9 q10 q11 sd)), (h1, .inl (G.2.1, 55, .inl (upd F31 25 r33)))]) := hD20
        refine lv_aload_n hx hb dX7_tick_110 rfl (lv_at hl16 2 rfl) ?_
        refine lv_iload_n hx hb dX7_tick_111 rfl (lv_at hl16 0 rfl) ?_
        refine lv_bipush (v := 10) hx hb dX7_tick_112 (by decide) ?_
        refine lv_iadd hx hb dX7_tick_114 ?_
        refine k_top (y := 26) (by decide +kernel) ?_
        refine k_iald (v := (F31 26)) kx hK hP21 1 rfl 26 rfl (by decide) (by decide) rfl dX7_tick_115 ?_
        refine lv_iconst (v := 1) hx hb dX7_tick_116 (by decide) ?_
        refine lv_icmp_eq (x := F31 26) (y := 1) (tgt := 137) hx hb dX7_tick_117 (by decide) (fun (c34 : F31 26 = 1) => ?_) (fun (c34 : ¬ (F31 26 = 1)) => ?_)
        · skip
          refine lv_aload_n hx hb dX7_tick_137 rfl (lv_at hl16 1 rfl) ?_
          refine lv_aload_n hx hb dX7_tick_138 rfl (lv_at hl16 2 rfl) ?_
          refine lv_iload_n hx hb dX7_tick_139 rfl (lv_at hl16 3 rfl) ?_
          refine k_callv (kRunV (As := [.ref h1, .int 1]) (rest := []) kx (c_X7_sendOn_1 l G F30 sd h0 q1 q2 q3 q4 q5 q6 q7 q8 q9 q10 q11 (upd F31 25 r33) h1) q_811 q_808 q_36 q_810 q_20 nX7_sendOn ⟨Nat.le_of_ble_eq_true rfl, Nat.le_of_ble_eq_true rfl⟩ hK hP21 hD22 (kCtx_all _) 0 7 rfl rfl rfl rfl hl16.1 (Nat.le_of_ble_eq_true rfl) dX7_tick_140 ⟨Nat.zero_le _, Nat.zero_le _⟩) hP21 hD22 hS20 hA (kCtx_all _) (fun _ => rfl) (fun u H23 locs23 hw hP23 hD23 hS23 => ?_)
          obtain ⟨F36, F37⟩ := u
          obtain ⟨hF36, hF37⟩ := hw
          have hF36 : s_X7_sendOn_1_Z F30 = F36 := (show F36 = s_X7_sendOn_1_Z F30 from hF36).symm
          have hF37 : s_X7_sendOn_1_f F30 (upd F31 25 r33) = F37 := (show F37 = s_X7_sendOn_1_f F30 (upd F31 25 r33) from hF37).symm
          have hP24 : va_P G.1 vwCl ([(h0, .inr (7, cM F36 q1 q2 q3 q4 q5 q6 q7 q8 q9 q10 q11 sd)), (h1, .inl (G.2.1, 55, .inl F37))]) H23 := hP23
          have hD25 : va_D A ([(h0, .inr (7, cM F36 q1 q2 q3 q4 q5 q6 q7 q8 q9 q10 q11 sd)), (h1, .inl (G.2.1, 55, .inl F37))]) := hD23
          refine lv_iinc (v := 2) (lv' := [(2, .int 2), (3, .int 16), (0, .ref h0), (1, .ref h1)]) hx hb dX7_tick_143 hl16 (k := 3) rfl (by decide +kernel) (by decide) rfl (fun ls26 hl26 => ?_)
          refine lv_goto (tgt := 82) hx hb dX7_tick_146 (by decide) ?_
          refine lv_iload_n hx hb dX7_tick_82 rfl (lv_at hl26 0 rfl) ?_
          refine lv_iconst (v := 2) hx hb dX7_tick_83 (by decide) ?_
          refine lv_icmp_ge (x := 2) (y := 2) (tgt := 149) hx hb dX7_tick_84 (by decide) (fun (c38 : 2 ≤ 2) => ?_) (fun (c38 : ¬ (2 ≤ 2)) => absurd (by decide) c38)
          refine lv_aload_n hx hb dX7_tick_149 rfl (lv_at hl26 3 rfl) ?_
          refine lv_bipush (v := 54) hx hb dX7_tick_150 (by decide) ?_
          refine lv_dup2_11 hx hb dX7_tick_152 rfl rfl ?_
          refine k_iald (v := (F37 54)) kx hK hP24 1 rfl 54 rfl (by decide) (by decide) rfl dX7_tick_153 ?_
          refine lv_aload_n hx hb dX7_tick_154 rfl (lv_at hl26 3 rfl) ?_
          refine lv_iconst (v := 5) hx hb dX7_tick_155 (by decide) ?_
          refine k_iald (v := (F37 5)) kx hK hP24 1 rfl 5 rfl (by decide) (by decide) rfl dX7_tick_156 ?_
          refine lv_iconst (v := 2) hx hb dX7_tick_157 (by decide) ?_
          refine lv_icmp_ne (x := F37 5) (y := 2) (tgt := 173) hx hb dX7_tick_158 (by decide) (fun (c39 : ¬ (F37 5 = 2)) => ?_) (fun (c39 : F37 5 = 2) => ?_)
          · skip
            refine lv_iconst (v := 0) hx hb dX7_tick_173 (by decide) ?_
            refine lv_iadd hx hb dX7_tick_174 ?_
            refine k_iast kx hK hP24 hD25 hS23 1 rfl 54 rfl (by decide) (by decide) dX7_tick_175 (fun H27 locs27 hP27 hD27 hS27 => ?_)
            have hP28 : va_P G.1 vwCl ([(h0, .inr (7, cM F36 q1 q2 q3 q4 q5 q6 q7 q8 q9 q10 q11 sd)), (h1, .inl (G.2.1, 55, .inl (upd F37 54 ((F37 54) + 0))))]) H27 := hP27
            have hD29 : va_D A ([(h0, .inr (7, cM F36 q1 q2 q3 q4 q5 q6 q7 q8 q9 q10 q11 sd)), (h1, .inl (G.2.1, 55, .inl (upd F37 54 ((F37 54) + 0))))]) := hD27
            have e0 : s_X7_tick_Z Z f = F36 := by rw [s_X7_tick_Z]; (try rw [hF2]); (try rw [hF3]); (try rw [hF5]); (try rw [hF6]); (try rw [hF14]); (try rw [hF30]); (try rw [hF31]); (try rw [hr33]); (try rw [hF36]); (try rw [hF37]); rw [if_pos c16, if_pos c34, if_neg c39]
            have e1 : s_X7_tick_f Z f = upd F37 54 ((F37 54) + 0) := by rw [s_X7_tick_f]; (try rw [hF2]); (try rw [hF3]); (try rw [hF5]); (try rw [hF6]); (try rw [hF14]); (try rw [hF30]); (try rw [hF31]); (try rw [hr33]); (try rw [hF36]); (try rw [hF37]); rw [if_pos c16, if_pos c34, if_neg c39]
            exact k_vret kx hK hP28 hD29 hS27 (u := (F36, upd F37 54 ((F37 54) + 0))) rfl ⟨e0.symm, e1.symm⟩ dX7_tick_176
          · skip
            refine lv_aload_n hx hb dX7_tick_161 rfl (lv_at hl26 3 rfl) ?_
            refine lv_bipush (v := 21) hx hb dX7_tick_162 (by decide) ?_
            refine k_iald (v := (F37 21)) kx hK hP24 1 rfl 21 rfl (by decide) (by decide) rfl dX7_tick_164 ?_
            refine lv_iconst (v := 2) hx hb dX7_tick_165 (by decide) ?_
            refine lv_icmp_ne (x := F37 21) (y := 2) (tgt := 173) hx hb dX7_tick_166 (by decide) (fun (c40 : ¬ (F37 21 = 2)) => ?_) (fun (c40 : F37 21 = 2) => ?_)
            · skip
              refine lv_iconst (v := 0) hx hb dX7_tick_173 (by decide) ?_
              refine lv_iadd hx hb dX7_tick_174 ?_
              refine k_iast kx hK hP24 hD25 hS23 1 rfl 54 rfl (by decide) (by decide) dX7_tick_175 (fun H30 locs30 hP30 hD30 hS30 => ?_)
              have hP31 : va_P G.1 vwCl ([(h0, .inr (7, cM F36 q1 q2 q3 q4 q5 q6 q7 q8 q9 q10 q11 sd)), (h1, .inl (G.2.1, 55, .inl (upd F37 54 ((F37 54) + 0))))]) H30 := hP30
              have hD32 : va_D A ([(h0, .inr (7, cM F36 q1 q2 q3 q4 q5 q6 q7 q8 q9 q10 q11 sd)), (h1, .inl (G.2.1, 55, .inl (upd F37 54 ((F37 54) + 0))))]) := hD30
              have e0 : s_X7_tick_Z Z f = F36 := by rw [s_X7_tick_Z]; (try rw [hF2]); (try rw [hF3]); (try rw [hF5]); (try rw [hF6]); (try rw [hF14]); (try rw [hF30]); (try rw [hF31]); (try rw [hr33]); (try rw [hF36]); (try rw [hF37]); rw [if_pos c16, if_pos c34, if_pos c39, if_neg c40]
              have e1 : s_X7_tick_f Z f = upd F37 54 ((F37 54) + 0) := by rw [s_X7_tick_f]; (try rw [hF2]); (try rw [hF3]); (try rw [hF5]); (try rw [hF6]); (try rw [hF14]); (try rw [hF30]); (try rw [hF31]); (try rw [hr33]); (try rw [hF36]); (try rw [hF37]); rw [if_pos c16, if_pos c34, if_pos c39, if_neg c40]
              exact k_vret kx hK hP31 hD32 hS30 (u := (F36, upd F37 54 ((F37 54) + 0))) rfl ⟨e0.symm, e1.symm⟩ dX7_tick_176
            · skip
              refine lv_iconst (v := 1) hx hb dX7_tick_169 (by decide) ?_
              refine lv_goto (tgt := 174) hx hb dX7_tick_170 (by decide) ?_
              refine lv_iadd hx hb dX7_tick_174 ?_
              refine k_iast kx hK hP24 hD25 hS23 1 rfl 54 rfl (by decide) (by decide) dX7_tick_175 (fun H33 locs33 hP33 hD33 hS33 => ?_)
              have hP34 : va_P G.1 vwCl ([(h0, .inr (7, cM F36 q1 q2 q3 q4 q5 q6 q7 q8 q9 q10 q11 sd)), (h1, .inl (G.2.1, 55, .inl (upd F37 54 ((F37 54) + 1))))]) H33 := hP33
              have hD35 : va_D A ([(h0, .inr (7, cM F36 q1 q2 q3 q4 q5 q6 q7 q8 q9 q10 q11 sd)), (h1, .inl (G.2.1, 55, .inl (upd F37 54 ((F37 54) + 1))))]) := hD33
              have e0 : s_X7_tick_Z Z f = F36 := by rw [s_X7_tick_Z]; (try rw [hF2]); (try rw [hF3]); (try rw [hF5]); (try rw [hF6]); (try rw [hF14]); (try rw [hF30]); (try rw [hF31]); (try rw [hr33]); (try rw [hF36]); (try rw [hF37]); rw [if_pos c16, if_pos c34, if_pos c39, if_pos c40]
              have e1 : s_X7_tick_f Z f = upd F37 54 ((F37 54) + 1) := by rw [s_X7_tick_f]; (try rw [hF2]); (try rw [hF3]); (try rw [hF5]); (try rw [hF6]); (try rw [hF14]); (try rw [hF30]); (try rw [hF31]); (try rw [hr33]); (try rw [hF36]); (try rw [hF37]); rw [if_pos c16, if_pos c34, if_pos c39, if_pos c40]
              exact k_vret kx hK hP34 hD35 hS33 (u := (F36, upd F37 54 ((F37 54) + 1))) rfl ⟨e0.symm, e1.symm⟩ dX7_tick_176
        · skip
          refine lv_aload_n hx hb dX7_tick_120 rfl (lv_at hl16 2 rfl) ?_
          refine lv_iload_n hx hb dX7_tick_121 rfl (lv_at hl16 0 rfl) ?_
          refine lv_bipush (v := 9) hx hb dX7_tick_122 (by decide) ?_
          refine lv_iadd hx hb dX7_tick_124 ?_
          refine k_top (y := 25) (by decide +kernel) ?_
          refine k_iald (v := r33) kx hK hP21 1 rfl 25 rfl (by decide) (by decide) rfl dX7_tick_125 ?_
          refine lv_if_ne (x := r33) (tgt := 143) hx hb dX7_tick_126 (by decide) (fun (c41 : ¬ (r33 = 0)) => ?_) (fun (c41 : r33 = 0) => ?_)
          · skip
            refine lv_iinc (v := 2) (lv' := [(2, .int 2), (3, .int 16), (0, .ref h0), (1, .ref h1)]) hx hb dX7_tick_143 hl16 (k := 3) rfl (by decide +kernel) (by decide) rfl (fun ls36 hl36 => ?_)
            refine lv_goto (tgt := 82) hx hb dX7_tick_146 (by decide) ?_
            refine lv_iload_n hx hb dX7_tick_82 rfl (lv_at hl36 0 rfl) ?_
            refine lv_iconst (v := 2) hx hb dX7_tick_83 (by decide) ?_
            refine lv_icmp_ge (x := 2) (y := 2) (tgt := 149) hx hb dX7_tick_84 (by decide) (fun (c42 : 2 ≤ 2) => ?_) (fun (c42 : ¬ (2 ≤ 2)) => absurd (by decide) c42)
            refine lv_aload_n hx hb dX7_tick_149 rfl (lv_at hl36 3 rfl) ?_
            refine lv_bipush (v := 54) hx hb dX7_tick_150 (by decide) ?_
            refine lv_dup2_11 hx hb dX7_tick_152 rfl rfl ?_
            refine k_iald (v := (F31 54)) kx hK hP21 1 rfl 54 rfl (by decide) (by decide) rfl dX7_tick_153 ?_
            refine lv_aload_n hx hb dX7_tick_154 rfl (lv_at hl36 3 rfl) ?_
            refine lv_iconst (v := 5) hx hb dX7_tick_155 (by decide) ?_
            refine k_iald (v := (F31 5)) kx hK hP21 1 rfl 5 rfl (by decide) (by decide) rfl dX7_tick_156 ?_
            refine lv_iconst (v := 2) hx hb dX7_tick_157 (by decide) ?_
            refine lv_icmp_ne (x := F31 5) (y := 2) (tgt := 173) hx hb dX7_tick_158 (by decide) (fun (c43 : ¬ (F31 5 = 2)) => ?_) (fun (c43 : F31 5 = 2) => ?_)
            · skip
              refine lv_iconst (v := 0) hx hb dX7_tick_173 (by decide) ?_
              refine lv_iadd hx hb dX7_tick_174 ?_
              refine k_iast kx hK hP21 hD22 hS20 1 rfl 54 rfl (by decide) (by decide) dX7_tick_175 (fun H37 locs37 hP37 hD37 hS37 => ?_)
              have hP38 : va_P G.1 vwCl ([(h0, .inr (7, cM F30 q1 q2 q3 q4 q5 q6 q7 q8 q9 q10 q11 sd)), (h1, .inl (G.2.1, 55, .inl (upd (upd F31 25 r33) 54 ((F31 54) + 0))))]) H37 := hP37
              have hD39 : va_D A ([(h0, .inr (7, cM F30 q1 q2 q3 q4 q5 q6 q7 q8 q9 q10 q11 sd)), (h1, .inl (G.2.1, 55, .inl (upd (upd F31 25 r33) 54 ((F31 54) + 0))))]) := hD37
              have e0 : s_X7_tick_Z Z f = F30 := by rw [s_X7_tick_Z]; (try rw [hF2]); (try rw [hF3]); (try rw [hF5]); (try rw [hF6]); (try rw [hF14]); (try rw [hF30]); (try rw [hF31]); (try rw [hr33]); rw [if_pos c16, if_neg c34, if_neg c41, if_neg c43]
              have e1 : s_X7_tick_f Z f = upd (upd F31 25 r33) 54 ((F31 54) + 0) := by rw [s_X7_tick_f]; (try rw [hF2]); (try rw [hF3]); (try rw [hF5]); (try rw [hF6]); (try rw [hF14]); (try rw [hF30]); (try rw [hF31]); (try rw [hr33]); rw [if_pos c16, if_neg c34, if_neg c41, if_neg c43]
              exact k_vret kx hK hP38 hD39 hS37 (u := (F30, upd (upd F31 25 r33) 54 ((F31 54) + 0))) rfl ⟨e0.symm, e1.symm⟩ dX7_tick_176
            · skip
              refine lv_aload_n hx hb dX7_tick_161 rfl (lv_at hl36 3 rfl) ?_
              refine lv_bipush (v := 21) hx hb dX7_tick_162 (by decide) ?_
              refine k_iald (v := (F31 21)) kx hK hP21 1 rfl 21 rfl (by decide) (by decide) rfl dX7_tick_164 ?_
              refine lv_iconst (v := 2) hx hb dX7_tick_165 (by decide) ?_
              refine lv_icmp_ne (x := F31 21) (y := 2) (tgt := 173) hx hb dX7_tick_166 (by decide) (fun (c44 : ¬ (F31 21 = 2)) => ?_) (fun (c44 : F31 21 = 2) => ?_)
              · skip
                refine lv_iconst (v := 0) hx hb dX7_tick_173 (by decide) ?_
                refine lv_iadd hx hb dX7_tick_174 ?_
                refine k_iast kx hK hP21 hD22 hS20 1 rfl 54 rfl (by decide) (by decide) dX7_tick_175 (fun H40 locs40 hP40 hD40 hS40 => ?_)
                have hP41 : va_P G.1 vwCl ([(h0, .inr (7, cM F30 q1 q2 q3 q4 q5 q6 q7 q8 q9 q10 q11 sd)), (h1, .inl (G.2.1, 55, .inl (upd (upd F31 25 r33) 54 ((F31 54) + 0))))]) H40 := hP40
                have hD42 : va_D A ([(h0, .inr (7, cM F30 q1 q2 q3 q4 q5 q6 q7 q8 q9 q10 q11 sd)), (h1, .inl (G.2.1, 55, .inl (upd (upd F31 25 r33) 54 ((F31 54) + 0))))]) := hD40
                have e0 : s_X7_tick_Z Z f = F30 := by rw [s_X7_tick_Z]; (try rw [hF2]); (try rw [hF3]); (try rw [hF5]); (try rw [hF6]); (try rw [hF14]); (try rw [hF30]); (try rw [hF31]); (try rw [hr33]); rw [if_pos c16, if_neg c34, if_neg c41, if_pos c43, if_neg c44]
                have e1 : s_X7_tick_f Z f = upd (upd F31 25 r33) 54 ((F31 54) + 0) := by rw [s_X7_tick_f]; (try rw [hF2]); (try rw [hF3]); (try rw [hF5]); (try rw [hF6]); (try rw [hF14]); (try rw [hF30]); (try rw [hF31]); (try rw [hr33]); rw [if_pos c16, if_neg c34, if_neg c41, if_pos c43, if_neg c44]
                exact k_vret kx hK hP41 hD42 hS40 (u := (F30, upd (upd F31 25 r33) 54 ((F31 54) + 0))) rfl ⟨e0.symm, e1.symm⟩ dX7_tick_176
              · skip
                refine lv_iconst (v := 1) hx hb dX7_tick_169 (by decide) ?_
                refine lv_goto (tgt := 174) hx hb dX7_tick_170 (by decide) ?_
                refine lv_iadd hx hb dX7_tick_174 ?_
                refine k_iast kx hK hP21 hD22 hS20 1 rfl 54 rfl (by decide) (by decide) dX7_tick_175 (fun H43 locs43 hP43 hD43 hS43 => ?_)
                have hP44 : va_P G.1 vwCl ([(h0, .inr (7, cM F30 q1 q2 q3 q4 q5 q6 q7 q8 q9 q10 q11 sd)), (h1, .inl (G.2.1, 55, .inl (upd (upd F31 25 r33) 54 ((F31 54) + 1))))]) H43 := hP43
                have hD45 : va_D A ([(h0, .inr (7, cM F30 q1 q2 q3 q4 q5 q6 q7 q8 q9 q10 q11 sd)), (h1, .inl (G.2.1, 55, .inl (upd (upd F31 25 r33) 54 ((F31 54) + 1))))]) := hD43
                have e0 : s_X7_tick_Z Z f = F30 := by rw [s_X7_tick_Z]; (try rw [hF2]); (try rw [hF3]); (try rw [hF5]); (try rw [hF6]); (try rw [hF14]); (try rw [hF30]); (try rw [hF31]); (try rw [hr33]); rw [if_pos c16, if_neg c34, if_neg c41, if_pos c43, if_pos c44]
                have e1 : s_X7_tick_f Z f = upd (upd F31 25 r33) 54 ((F31 54) + 1) := by rw [s_X7_tick_f]; (try rw [hF2]); (try rw [hF3]); (try rw [hF5]); (try rw [hF6]); (try rw [hF14]); (try rw [hF30]); (try rw [hF31]); (try rw [hr33]); rw [if_pos c16, if_neg c34, if_neg c41, if_pos c43, if_pos c44]
                exact k_vret kx hK hP44 hD45 hS43 (u := (F30, upd (upd F31 25 r33) 54 ((F31 54) + 1))) rfl ⟨e0.symm, e1.symm⟩ dX7_tick_176
          · skip
            refine lv_aload_n hx hb dX7_tick_129 rfl (lv_at hl16 2 rfl) ?_
            refine lv_iload_n hx hb dX7_tick_130 rfl (lv_at hl16 0 rfl) ?_
            refine k_calli (kRunS (As := [.ref h1, .int 16]) (rest := []) kx (c_X7_isStill_16 l G (upd F31 25 r33) h1) q_807 q_805 q_36 q_806 nX7_isStill ⟨Nat.le_of_ble_eq_true rfl, Nat.le_of_ble_eq_true rfl⟩ hK hP21 hD22 (kCtx_places _ _ [1] rfl rfl) rfl hl16.1 (Nat.le_of_ble_eq_true rfl) dX7_tick_131 ⟨Nat.zero_le _, Nat.zero_le _⟩) hP21 hD22 hS20 hA (kCtx_places _ _ [1] rfl rfl) (fun _ => rfl) (fun r45 _ H46 locs46 hw hP46 hD46 hS46 => ?_)
            have hr45 : r_X7_isStill_16 (upd F31 25 r33) = r45 := (show r45 = r_X7_isStill_16 (upd F31 25 r33) from hw).symm
            have hP47 : va_P G.1 vwCl ([(h0, .inr (7, cM F30 q1 q2 q3 q4 q5 q6 q7 q8 q9 q10 q11 sd)), (h1, .inl (G.2.1, 55, .inl (upd F31 25 r33)))]) H46 := hP46
            have hD48 : va_D A ([(h0, .inr (7, cM F30 q1 q2 q3 q4 q5 q6 q7 q8 q9 q10 q11 sd)), (h1, .inl (G.2.1, 55, .inl (upd F31 25 r33)))]) := hD46
            refine lv_if_ne (x := r45) (tgt := 143) hx hb dX7_tick_134 (by decide) (fun (c46 : ¬ (r45 = 0)) => ?_) (fun (c46 : r45 = 0) => ?_)
            · skip
              refine lv_iinc (v := 2) (lv' := [(2, .int 2), (3, .int 16), (0, .ref h0), (1, .ref h1)]) hx hb dX7_tick_143 hl16 (k := 3) rfl (by decide +kernel) (by decide) rfl (fun ls49 hl49 => ?_)
              refine lv_goto (tgt := 82) hx hb dX7_tick_146 (by decide) ?_
              refine lv_iload_n hx hb dX7_tick_82 rfl (lv_at hl49 0 rfl) ?_
              refine lv_iconst (v := 2) hx hb dX7_tick_83 (by decide) ?_
              refine lv_icmp_ge (x := 2) (y := 2) (tgt := 149) hx hb dX7_tick_84 (by decide) (fun (c47 : 2 ≤ 2) => ?_) (fun (c47 : ¬ (2 ≤ 2)) => absurd (by decide) c47)
              refine lv_aload_n hx hb dX7_tick_149 rfl (lv_at hl49 3 rfl) ?_
              refine lv_bipush (v := 54) hx hb dX7_tick_150 (by decide) ?_
              refine lv_dup2_11 hx hb dX7_tick_152 rfl rfl ?_
              refine k_iald (v := (F31 54)) kx hK hP47 1 rfl 54 rfl (by decide) (by decide) rfl dX7_tick_153 ?_
              refine lv_aload_n hx hb dX7_tick_154 rfl (lv_at hl49 3 rfl) ?_
              refine lv_iconst (v := 5) hx hb dX7_tick_155 (by decide) ?_
              refine k_iald (v := (F31 5)) kx hK hP47 1 rfl 5 rfl (by decide) (by decide) rfl dX7_tick_156 ?_
              refine lv_iconst (v := 2) hx hb dX7_tick_157 (by decide) ?_
              refine lv_icmp_ne (x := F31 5) (y := 2) (tgt := 173) hx hb dX7_tick_158 (by decide) (fun (c48 : ¬ (F31 5 = 2)) => ?_) (fun (c48 : F31 5 = 2) => ?_)
              · skip
                refine lv_iconst (v := 0) hx hb dX7_tick_173 (by decide) ?_
                refine lv_iadd hx hb dX7_tick_174 ?_
                refine k_iast kx hK hP47 hD48 hS46 1 rfl 54 rfl (by decide) (by decide) dX7_tick_175 (fun H50 locs50 hP50 hD50 hS50 => ?_)
                have hP51 : va_P G.1 vwCl ([(h0, .inr (7, cM F30 q1 q2 q3 q4 q5 q6 q7 q8 q9 q10 q11 sd)), (h1, .inl (G.2.1, 55, .inl (upd (upd F31 25 r33) 54 ((F31 54) + 0))))]) H50 := hP50
                have hD52 : va_D A ([(h0, .inr (7, cM F30 q1 q2 q3 q4 q5 q6 q7 q8 q9 q10 q11 sd)), (h1, .inl (G.2.1, 55, .inl (upd (upd F31 25 r33) 54 ((F31 54) + 0))))]) := hD50
                have e0 : s_X7_tick_Z Z f = F30 := by rw [s_X7_tick_Z]; (try rw [hF2]); (try rw [hF3]); (try rw [hF5]); (try rw [hF6]); (try rw [hF14]); (try rw [hF30]); (try rw [hF31]); (try rw [hr33]); (try rw [hr45]); rw [if_pos c16, if_neg c34, if_pos c41, if_neg c46, if_neg c48]
                have e1 : s_X7_tick_f Z f = upd (upd F31 25 r33) 54 ((F31 54) + 0) := by rw [s_X7_tick_f]; (try rw [hF2]); (try rw [hF3]); (try rw [hF5]); (try rw [hF6]); (try rw [hF14]); (try rw [hF30]); (try rw [hF31]); (try rw [hr33]); (try rw [hr45]); rw [if_pos c16, if_neg c34, if_pos c41, if_neg c46, if_neg c48]
                exact k_vret kx hK hP51 hD52 hS50 (u := (F30, upd (upd F31 25 r33) 54 ((F31 54) + 0))) rfl ⟨e0.symm, e1.symm⟩ dX7_tick_176
              · skip
                refine lv_aload_n hx hb dX7_tick_161 rfl (lv_at hl49 3 rfl) ?_
                refine lv_bipush (v := 21) hx hb dX7_tick_162 (by decide) ?_
                refine k_iald (v := (F31 21)) kx hK hP47 1 rfl 21 rfl (by decide) (by decide) rfl dX7_tick_164 ?_
                refine lv_iconst (v := 2) hx hb dX7_tick_165 (by decide) ?_
                refine lv_icmp_ne (x := F31 21) (y := 2) (tgt := 173) hx hb dX7_tick_166 (by decide) (fun (c49 : ¬ (F31 21 = 2)) => ?_) (fun (c49 : F31 21 = 2) => ?_)
                · skip
                  refine lv_iconst (v := 0) hx hb dX7_tick_173 (by decide) ?_
                  refine lv_iadd hx hb dX7_tick_174 ?_
                  refine k_iast kx hK hP47 hD48 hS46 1 rfl 54 rfl (by decide) (by decide) dX7_tick_175 (fun H53 locs53 hP53 hD53 hS53 => ?_)
                  have hP54 : va_P G.1 vwCl ([(h0, .inr (7, cM F30 q1 q2 q3 q4 q5 q6 q7 q8 q9 q10 q11 sd)), (h1, .inl (G.2.1, 55, .inl (upd (upd F31 25 r33) 54 ((F31 54) + 0))))]) H53 := hP53
                  have hD55 : va_D A ([(h0, .inr (7, cM F30 q1 q2 q3 q4 q5 q6 q7 q8 q9 q10 q11 sd)), (h1, .inl (G.2.1, 55, .inl (upd (upd F31 25 r33) 54 ((F31 54) + 0))))]) := hD53
                  have e0 : s_X7_tick_Z Z f = F30 := by rw [s_X7_tick_Z]; (try rw [hF2]); (try rw [hF3]); (try rw [hF5]); (try rw [hF6]); (try rw [hF14]); (try rw [hF30]); (try rw [hF31]); (try rw [hr33]); (try rw [hr45]); rw [if_pos c16, if_neg c34, if_pos c41, if_neg c46, if_pos c48, if_neg c49]
                  have e1 : s_X7_tick_f Z f = upd (upd F31 25 r33) 54 ((F31 54) + 0) := by rw [s_X7_tick_f]; (try rw [hF2]); (try rw [hF3]); (try rw [hF5]); (try rw [hF6]); (try rw [hF14]); (try rw [hF30]); (try rw [hF31]); (try rw [hr33]); (try rw [hr45]); rw [if_pos c16, if_neg c34, if_pos c41, if_neg c46, if_pos c48, if_neg c49]
                  exact k_vret kx hK hP54 hD55 hS53 (u := (F30, upd (upd F31 25 r33) 54 ((F31 54) + 0))) rfl ⟨e0.symm, e1.symm⟩ dX7_tick_176
                · skip
                  refine lv_iconst (v := 1) hx hb dX7_tick_169 (by decide) ?_
                  refine lv_goto (tgt := 174) hx hb dX7_tick_170 (by decide) ?_
                  refine lv_iadd hx hb dX7_tick_174 ?_
                  refine k_iast kx hK hP47 hD48 hS46 1 rfl 54 rfl (by decide) (by decide) dX7_tick_175 (fun H56 locs56 hP56 hD56 hS56 => ?_)
                  have hP57 : va_P G.1 vwCl ([(h0, .inr (7, cM F30 q1 q2 q3 q4 q5 q6 q7 q8 q9 q10 q11 sd)), (h1, .inl (G.2.1, 55, .inl (upd (upd F31 25 r33) 54 ((F31 54) + 1))))]) H56 := hP56
                  have hD58 : va_D A ([(h0, .inr (7, cM F30 q1 q2 q3 q4 q5 q6 q7 q8 q9 q10 q11 sd)), (h1, .inl (G.2.1, 55, .inl (upd (upd F31 25 r33) 54 ((F31 54) + 1))))]) := hD56
                  have e0 : s_X7_tick_Z Z f = F30 := by rw [s_X7_tick_Z]; (try rw [hF2]); (try rw [hF3]); (try rw [hF5]); (try rw [hF6]); (try rw [hF14]); (try rw [hF30]); (try rw [hF31]); (try rw [hr33]); (try rw [hr45]); rw [if_pos c16, if_neg c34, if_pos c41, if_neg c46, if_pos c48, if_pos c49]
                  have e1 : s_X7_tick_f Z f = upd (upd F31 25 r33) 54 ((F31 54) + 1) := by rw [s_X7_tick_f]; (try rw [hF2]); (try rw [hF3]); (try rw [hF5]); (try rw [hF6]); (try rw [hF14]); (try rw [hF30]); (try rw [hF31]); (try rw [hr33]); (try rw [hr45]); rw [if_pos c16, if_neg c34, if_pos c41, if_neg c46, if_pos c48, if_pos c49]
                  exact k_vret kx hK hP57 hD58 hS56 (u := (F30, upd (upd F31 25 r33) 54 ((F31 54) + 1))) rfl ⟨e0.symm, e1.symm⟩ dX7_tick_176
            · skip
              refine lv_aload_n hx hb dX7_tick_137 rfl (lv_at hl16 1 rfl) ?_
              refine lv_aload_n hx hb dX7_tick_138 rfl (lv_at hl16 2 rfl) ?_
              refine lv_iload_n hx hb dX7_tick_139 rfl (lv_at hl16 3 rfl) ?_
              refine k_callv (kRunV (As := [.ref h1, .int 1]) (rest := []) kx (c_X7_sendOn_1 l G F30 sd h0 q1 q2 q3 q4 q5 q6 q7 q8 q9 q10 q11 (upd F31 25 r33) h1) q_811 q_808 q_36 q_810 q_20 nX7_sendOn ⟨Nat.le_of_ble_eq_true rfl, Nat.le_of_ble_eq_true rfl⟩ hK hP47 hD48 (kCtx_all _) 0 7 rfl rfl rfl rfl hl16.1 (Nat.le_of_ble_eq_true rfl) dX7_tick_140 ⟨Nat.zero_le _, Nat.zero_le _⟩) hP47 hD48 hS46 hA (kCtx_all _) (fun _ => rfl) (fun u H59 locs59 hw hP59 hD59 hS59 => ?_)
              obtain ⟨F51, F52⟩ := u
              obtain ⟨hF51, hF52⟩ := hw
              have hF51 : s_X7_sendOn_1_Z F30 = F51 := (show F51 = s_X7_sendOn_1_Z F30 from hF51).symm
              have hF52 : s_X7_sendOn_1_f F30 (upd F31 25 r33) = F52 := (show F52 = s_X7_sendOn_1_f F30 (upd F31 25 r33) from hF52).symm
              have hP60 : va_P G.1 vwCl ([(h0, .inr (7, cM F51 q1 q2 q3 q4 q5 q6 q7 q8 q9 q10 q11 sd)), (h1, .inl (G.2.1, 55, .inl F52))]) H59 := hP59
              have hD61 : va_D A ([(h0, .inr (7, cM F51 q1 q2 q3 q4 q5 q6 q7 q8 q9 q10 q11 sd)), (h1, .inl (G.2.1, 55, .inl F52))]) := hD59
              refine lv_iinc (v := 2) (lv' := [(2, .int 2), (3, .int 16), (0, .ref h0), (1, .ref h1)]) hx hb dX7_tick_143 hl16 (k := 3) rfl (by decide +kernel) (by decide) rfl (fun ls62 hl62 => ?_)
              refine lv_goto (tgt := 82) hx hb dX7_tick_146 (by decide) ?_
              refine lv_iload_n hx hb dX7_tick_82 rfl (lv_at hl62 0 rfl) ?_
              refine lv_iconst (v := 2) hx hb dX7_tick_83 (by decide) ?_
              refine lv_icmp_ge (x := 2) (y := 2) (tgt := 149) hx hb dX7_tick_84 (by decide) (fun (c53 : 2 ≤ 2) => ?_) (fun (c53 : ¬ (2 ≤ 2)) => absurd (by decide) c53)
              refine lv_aload_n hx hb dX7_tick_149 rfl (lv_at hl62 3 rfl) ?_
              refine lv_bipush (v := 54) hx hb dX7_tick_150 (by decide) ?_
              refine lv_dup2_11 hx hb dX7_tick_152 rfl rfl ?_
              refine k_iald (v := (F52 54)) kx hK hP60 1 rfl 54 rfl (by decide) (by decide) rfl dX7_tick_153 ?_
              refine lv_aload_n hx hb dX7_tick_154 rfl (lv_at hl62 3 rfl) ?_
              refine lv_iconst (v := 5) hx hb dX7_tick_155 (by decide) ?_
              refine k_iald (v := (F52 5)) kx hK hP60 1 rfl 5 rfl (by decide) (by decide) rfl dX7_tick_156 ?_
              refine lv_iconst (v := 2) hx hb dX7_tick_157 (by decide) ?_
              refine lv_icmp_ne (x := F52 5) (y := 2) (tgt := 173) hx hb dX7_tick_158 (by decide) (fun (c54 : ¬ (F52 5 = 2)) => ?_) (fun (c54 : F52 5 = 2) => ?_)
              · skip
                refine lv_iconst (v := 0) hx hb dX7_tick_173 (by decide) ?_
                refine lv_iadd hx hb dX7_tick_174 ?_
                refine k_iast kx hK hP60 hD61 hS59 1 rfl 54 rfl (by decide) (by decide) dX7_tick_175 (fun H63 locs63 hP63 hD63 hS63 => ?_)
                have hP64 : va_P G.1 vwCl ([(h0, .inr (7, cM F51 q1 q2 q3 q4 q5 q6 q7 q8 q9 q10 q11 sd)), (h1, .inl (G.2.1, 55, .inl (upd F52 54 ((F52 54) + 0))))]) H63 := hP63
                have hD65 : va_D A ([(h0, .inr (7, cM F51 q1 q2 q3 q4 q5 q6 q7 q8 q9 q10 q11 sd)), (h1, .inl (G.2.1, 55, .inl (upd F52 54 ((F52 54) + 0))))]) := hD63
                have e0 : s_X7_tick_Z Z f = F51 := by rw [s_X7_tick_Z]; (try rw [hF2]); (try rw [hF3]); (try rw [hF5]); (try rw [hF6]); (try rw [hF14]); (try rw [hF30]); (try rw [hF31]); (try rw [hr33]); (try rw [hr45]); (try rw [hF51]); (try rw [hF52]); rw [if_pos c16, if_neg c34, if_pos c41, if_pos c46, if_neg c54]
                have e1 : s_X7_tick_f Z f = upd F52 54 ((F52 54) + 0) := by rw [s_X7_tick_f]; (try rw [hF2]); (try rw [hF3]); (try rw [hF5]); (try rw [hF6]); (try rw [hF14]); (try rw [hF30]); (try rw [hF31]); (try rw [hr33]); (try rw [hr45]); (try rw [hF51]); (try rw [hF52]); rw [if_pos c16, if_neg c34, if_pos c41, if_pos c46, if_neg c54]
                exact k_vret kx hK hP64 hD65 hS63 (u := (F51, upd F52 54 ((F52 54) + 0))) rfl ⟨e0.symm, e1.symm⟩ dX7_tick_176
              · skip
                refine lv_aload_n hx hb dX7_tick_161 rfl (lv_at hl62 3 rfl) ?_
                refine lv_bipush (v := 21) hx hb dX7_tick_162 (by decide) ?_
                refine k_iald (v := (F52 21)) kx hK hP60 1 rfl 21 rfl (by decide) (by decide) rfl dX7_tick_164 ?_
                refine lv_iconst (v := 2) hx hb dX7_tick_165 (by decide) ?_
                refine lv_icmp_ne (x := F52 21) (y := 2) (tgt := 173) hx hb dX7_tick_166 (by decide) (fun (c55 : ¬ (F52 21 = 2)) => ?_) (fun (c55 : F52 21 = 2) => ?_)
                · skip
                  refine lv_iconst (v := 0) hx hb dX7_tick_173 (by decide) ?_
                  refine lv_iadd hx hb dX7_tick_174 ?_
                  refine k_iast kx hK hP60 hD61 hS59 1 rfl 54 rfl (by decide) (by decide) dX7_tick_175 (fun H66 locs66 hP66 hD66 hS66 => ?_)
                  have hP67 : va_P G.1 vwCl ([(h0, .inr (7, cM F51 q1 q2 q3 q4 q5 q6 q7 q8 q9 q10 q11 sd)), (h1, .inl (G.2.1, 55, .inl (upd F52 54 ((F52 54) + 0))))]) H66 := hP66
                  have hD68 : va_D A ([(h0, .inr (7, cM F51 q1 q2 q3 q4 q5 q6 q7 q8 q9 q10 q11 sd)), (h1, .inl (G.2.1, 55, .inl (upd F52 54 ((F52 54) + 0))))]) := hD66
                  have e0 : s_X7_tick_Z Z f = F51 := by rw [s_X7_tick_Z]; (try rw [hF2]); (try rw [hF3]); (try rw [hF5]); (try rw [hF6]); (try rw [hF14]); (try rw [hF30]); (try rw [hF31]); (try rw [hr33]); (try rw [hr45]); (try rw [hF51]); (try rw [hF52]); rw [if_pos c16, if_neg c34, if_pos c41, if_pos c46, if_pos c54, if_neg c55]
                  have e1 : s_X7_tick_f Z f = upd F52 54 ((F52 54) + 0) := by rw [s_X7_tick_f]; (try rw [hF2]); (try rw [hF3]); (try rw [hF5]); (try rw [hF6]); (try rw [hF14]); (try rw [hF30]); (try rw [hF31]); (try rw [hr33]); (try rw [hr45]); (try rw [hF51]); (try rw [hF52]); rw [if_pos c16, if_neg c34, if_pos c41, if_pos c46, if_pos c54, if_neg c55]
                  exact k_vret kx hK hP67 hD68 hS66 (u := (F51, upd F52 54 ((F52 54) + 0))) rfl ⟨e0.symm, e1.symm⟩ dX7_tick_176
                · skip
                  refine lv_iconst (v := 1) hx hb dX7_tick_169 (by decide) ?_
                  refine lv_goto (tgt := 174) hx hb dX7_tick_170 (by decide) ?_
                  refine lv_iadd hx hb dX7_tick_174 ?_
                  refine k_iast kx hK hP60 hD61 hS59 1 rfl 54 rfl (by decide) (by decide) dX7_tick_175 (fun H69 locs69 hP69 hD69 hS69 => ?_)
                  have hP70 : va_P G.1 vwCl ([(h0, .inr (7, cM F51 q1 q2 q3 q4 q5 q6 q7 q8 q9 q10 q11 sd)), (h1, .inl (G.2.1, 55, .inl (upd F52 54 ((F52 54) + 1))))]) H69 := hP69
                  have hD71 : va_D A ([(h0, .inr (7, cM F51 q1 q2 q3 q4 q5 q6 q7 q8 q9 q10 q11 sd)), (h1, .inl (G.2.1, 55, .inl (upd F52 54 ((F52 54) + 1))))]) := hD69
                  have e0 : s_X7_tick_Z Z f = F51 := by rw [s_X7_tick_Z]; (try rw [hF2]); (try rw [hF3]); (try rw [hF5]); (try rw [hF6]); (try rw [hF14]); (try rw [hF30]); (try rw [hF31]); (try rw [hr33]); (try rw [hr45]); (try rw [hF51]); (try rw [hF52]); rw [if_pos c16, if_neg c34, if_pos c41, if_pos c46, if_pos c54, if_pos c55]
                  have e1 : s_X7_tick_f Z f = upd F52 54 ((F52 54) + 1) := by rw [s_X7_tick_f]; (try rw [hF2]); (try rw [hF3]); (try rw [hF5]); (try rw [hF6]); (try rw [hF14]); (try rw [hF30]); (try rw [hF31]); (try rw [hr33]); (try rw [hr45]); (try rw [hF51]); (try rw [hF52]); rw [if_pos c16, if_neg c34, if_pos c41, if_pos c46, if_pos c54, if_pos c55]
                  exact k_vret kx hK hP70 hD71 hS69 (u := (F51, upd F52 54 ((F52 54) + 1))) rfl ⟨e0.symm, e1.symm⟩ dX7_tick_176
      refine lv_iload_n hx hb dX7_tick_82 rfl (lv_at hl14 0 rfl) ?_
      refine lv_iconst (v := 2) hx hb dX7_tick_83 (by decide) ?_
      refine lv_icmp_ge (x := 0) (y := 2) (tgt := 149) hx hb dX7_tick_84 (by decide) (fun (c18 : 2 ≤ 0) => absurd c18 (by decide)) (fun (c18 : ¬ (2 ≤ 0)) => ?_)
      refine lv_bipush (v := 16) hx hb dX7_tick_87 (by decide) ?_
      refine lv_iload_n hx hb dX7_tick_89 rfl (lv_at hl14 0 rfl) ?_
      refine lv_imul hx hb dX7_tick_90 ?_
      refine k_top (y := 0) (by decide +kernel) ?_
      refine lv_istore_n (lv' := [(3, .int 0), (2, .int 0), (0, .ref h0), (1, .ref h1)]) hx hb dX7_tick_91 rfl hl14 (by decide) rfl (fun ls72 hl72 => ?_)
      refine lv_aload_n hx hb dX7_tick_92 rfl (lv_at hl72 3 rfl) ?_
      refine lv_iload_n hx hb dX7_tick_93 rfl (lv_at hl72 0 rfl) ?_
      refine lv_bipush (v := 9) hx hb dX7_tick_94 (by decide) ?_
      refine lv_iadd hx hb dX7_tick_96 ?_
      refine k_top (y := 9) (by decide +kernel) ?_
      refine lv_aload_n hx hb dX7_tick_97 rfl (lv_at hl72 3 rfl) ?_
      refine lv_iload_n hx hb dX7_tick_98 rfl (lv_at hl72 0 rfl) ?_
      refine lv_bipush (v := 9) hx hb dX7_tick_99 (by decide) ?_
      refine lv_iadd hx hb dX7_tick_101 ?_
      refine k_top (y := 9) (by decide +kernel) ?_
      refine k_iald (v := (F14 9)) kx hK hP11 1 rfl 9 rfl (by decide) (by decide) rfl dX7_tick_102 ?_
      refine lv_iconst (v := 1) hx hb dX7_tick_103 (by decide) ?_
      refine lv_isub hx hb dX7_tick_104 ?_
      refine lv_iconst (v := 0) hx hb dX7_tick_105 (by decide) ?_
      refine k_calli (kRunS (As := [.int ((F14 9) - 1), .int 0]) (rest := [.int 9, .ref h1]) kx (c_X7_max l G ((F14 9) - 1) 0) q_804 q_802 q_36 q_803 nX7_max ⟨Nat.le_of_ble_eq_true rfl, Nat.le_of_ble_eq_true rfl⟩ hK hP11 hD11 (kCtx_nil _) rfl hl72.1 (Nat.le_of_ble_eq_true rfl) dX7_tick_106 ⟨Nat.zero_le _, Nat.zero_le _⟩) hP11 hD11 hS11 hA (kCtx_nil _) (fun _ => rfl) (fun r19 _ H73 locs73 hw hP73 hD73 hS73 => ?_)
      have hr19 : r_X7_max ((F14 9) - 1) 0 = r19 := (show r19 = r_X7_max ((F14 9) - 1) 0 from hw).symm
      have hP74 : va_P G.1 vwCl ([(h0, .inr (7, cM F5 q1 q2 q3 q4 q5 q6 q7 q8 q9 q10 q11 sd)), (h1, .inl (G.2.1, 55, .inl F14))]) H73 := hP73
      have hD75 : va_D A ([(h0, .inr (7, cM F5 q1 q2 q3 q4 q5 q6 q7 q8 q9 q10 q11 sd)), (h1, .inl (G.2.1, 55, .inl F14))]) := hD73
      refine k_iast kx hK hP74 hD75 hS73 1 rfl 9 rfl (by decide) (by decide) dX7_tick_109 (fun H76 locs76 hP76 hD76 hS76 => ?_)
      have hP77 : va_P G.1 vwCl ([(h0, .inr (7, cM F5 q1 q2 q3 q4 q5 q6 q7 q8 q9 q10 q11 sd)), (h1, .inl (G.2.1, 55, .inl (upd F14 9 r19)))]) H76 := hP76
      have hD78 : va_D A ([(h0, .inr (7, cM F5 q1 q2 q3 q4 q5 q6 q7 q8 q9 q10 q11 sd)), (h1, .inl (G.2.1, 55, .inl (upd F14 9 r19)))]) := hD76
      refine lv_aload_n hx hb dX7_tick_110 rfl (lv_at hl72 3 rfl) ?_
      refine lv_iload_n hx hb dX7_tick_111 rfl (lv_at hl72 0 rfl) ?_
      refine lv_bipush (v := 10) hx hb dX7_tick_112 (by decide) ?_
      refine lv_iadd hx hb dX7_tick_114 ?_
      refine k_top (y := 10) (by decide +kernel) ?_
      refine k_iald (v := (F14 10)) kx hK hP77 1 rfl 10 rfl (by decide) (by decide) rfl dX7_tick_115 ?_
      refine lv_iconst (v := 1) hx hb dX7_tick_116 (by decide) ?_
      refine lv_icmp_eq (x := F14 10) (y := 1) (tgt := 137) hx hb dX7_tick_117 (by decide) (fun (c20 : F14 10 = 1) => ?_) (fun (c20 : ¬ (F14 10 = 1)) => ?_)
      · skip
        refine lv_aload_n hx hb dX7_tick_137 rfl (lv_at hl72 2 rfl) ?_
        refine lv_aload_n hx hb dX7_tick_138 rfl (lv_at hl72 3 rfl) ?_
        refine lv_iload_n hx hb dX7_tick_139 rfl (lv_at hl72 1 rfl) ?_
        refine k_callv (kRunV (As := [.ref h1, .int 0]) (rest := []) kx (c_X7_sendOn_0 l G F5 sd h0 q1 q2 q3 q4 q5 q6 q7 q8 q9 q10 q11 (upd F14 9 r19) h1) q_811 q_808 q_36 q_810 q_20 nX7_sendOn ⟨Nat.le_of_ble_eq_true rfl, Nat.le_of_ble_eq_true rfl⟩ hK hP77 hD78 (kCtx_all _) 0 7 rfl rfl rfl rfl hl72.1 (Nat.le_of_ble_eq_true rfl) dX7_tick_140 ⟨Nat.zero_le _, Nat.zero_le _⟩) hP77 hD78 hS76 hA (kCtx_all _) (fun _ => rfl) (fun u H79 locs79 hw hP79 hD79 hS79 => ?_)
        obtain ⟨F22, F23⟩ := u
        obtain ⟨hF22, hF23⟩ := hw
        have hF22 : s_X7_sendOn_0_Z F5 = F22 := (show F22 = s_X7_sendOn_0_Z F5 from hF22).symm
        have hF23 : s_X7_sendOn_0_f F5 (upd F14 9 r19) = F23 := (show F23 = s_X7_sendOn_0_f F5 (upd F14 9 r19) from hF23).symm
        have hP80 : va_P G.1 vwCl ([(h0, .inr (7, cM F22 q1 q2 q3 q4 q5 q6 q7 q8 q9 q10 q11 sd)), (h1, .inl (G.2.1, 55, .inl F23))]) H79 := hP79
        have hD81 : va_D A ([(h0, .inr (7, cM F22 q1 q2 q3 q4 q5 q6 q7 q8 q9 q10 q11 sd)), (h1, .inl (G.2.1, 55, .inl F23))]) := hD79
        refine lv_iinc (v := 1) (lv' := [(2, .int 1), (3, .int 0), (0, .ref h0), (1, .ref h1)]) hx hb dX7_tick_143 hl72 (k := 1) rfl (by decide +kernel) (by decide) rfl (fun ls82 hl82 => ?_)
        refine lv_goto (tgt := 82) hx hb dX7_tick_146 (by decide) ?_
        have e0 : t_X7_tick_2_Z F5 F14 = F22 := by rw [t_X7_tick_2_Z]; (try rw [hr19]); (try rw [hF22]); (try rw [hF23]); rw [if_pos c20]
        have e1 : t_X7_tick_2_f F5 F14 = F23 := by rw [t_X7_tick_2_f]; (try rw [hr19]); (try rw [hF22]); (try rw [hF23]); rw [if_pos c20]
        exact cut2 F22 F23 _ _ _ e0 e1 hP80 hD81 hS79 (lv_sub hl82 [2, 3, 0, 1] rfl)
      · skip
        refine lv_aload_n hx hb dX7_tick_120 rfl (lv_at hl72 3 rfl) ?_
        refine lv_iload_n hx hb dX7_tick_121 rfl (lv_at hl72 0 rfl) ?_
        refine lv_bipush (v := 9) hx hb dX7_tick_122 (by decide) ?_
        refine lv_iadd hx hb dX7_tick_124 ?_
        refine k_top (y := 9) (by decide +kernel) ?_
        refine k_iald (v := r19) kx hK hP77 1 rfl 9 rfl (by decide) (by decide) rfl dX7_tick_125 ?_
        refine lv_if_ne (x := r19) (tgt := 143) hx hb dX7_tick_126 (by decide) (fun (c24 : ¬ (r19 = 0)) => ?_) (fun (c24 : r19 = 0) => ?_)
        · skip
          refine lv_iinc (v := 1) (lv' := [(2, .int 1), (3, .int 0), (0, .ref h0), (1, .ref h1)]) hx hb dX7_tick_143 hl72 (k := 1) rfl (by decide +kernel) (by decide) rfl (fun ls83 hl83 => ?_)
          refine lv_goto (tgt := 82) hx hb dX7_tick_146 (by decide) ?_
          have e0 : t_X7_tick_2_Z F5 F14 = F5 := by rw [t_X7_tick_2_Z]; (try rw [hr19]); rw [if_neg c20, if_neg c24]
          have e1 : t_X7_tick_2_f F5 F14 = upd F14 9 r19 := by rw [t_X7_tick_2_f]; (try rw [hr19]); rw [if_neg c20, if_neg c24]
          exact cut2 F5 (upd F14 9 r19) _ _ _ e0 e1 hP77 hD78 hS76 (lv_sub hl83 [2, 3, 0, 1] rfl)
        · skip
          refine lv_aload_n hx hb dX7_tick_129 rfl (lv_at hl72 3 rfl) ?_
          refine lv_iload_n hx hb dX7_tick_130 rfl (lv_at hl72 0 rfl) ?_
          refine k_calli (kRunS (As := [.ref h1, .int 0]) (rest := []) kx (c_X7_isStill_0 l G (upd F14 9 r19) h1) q_807 q_805 q_36 q_806 nX7_isStill ⟨Nat.le_of_ble_eq_true rfl, Nat.le_of_ble_eq_true rfl⟩ hK hP77 hD78 (kCtx_places _ _ [1] rfl rfl) rfl hl72.1 (Nat.le_of_ble_eq_true rfl) dX7_tick_131 ⟨Nat.zero_le _, Nat.zero_le _⟩) hP77 hD78 hS76 hA (kCtx_places _ _ [1] rfl rfl) (fun _ => rfl) (fun r25 _ H84 locs84 hw hP84 hD84 hS84 => ?_)
          have hr25 : r_X7_isStill_0 (upd F14 9 r19) = r25 := (show r25 = r_X7_isStill_0 (upd F14 9 r19) from hw).symm
          have hP85 : va_P G.1 vwCl ([(h0, .inr (7, cM F5 q1 q2 q3 q4 q5 q6 q7 q8 q9 q10 q11 sd)), (h1, .inl (G.2.1, 55, .inl (upd F14 9 r19)))]) H84 := hP84
          have hD86 : va_D A ([(h0, .inr (7, cM F5 q1 q2 q3 q4 q5 q6 q7 q8 q9 q10 q11 sd)), (h1, .inl (G.2.1, 55, .inl (upd F14 9 r19)))]) := hD84
          refine lv_if_ne (x := r25) (tgt := 143) hx hb dX7_tick_134 (by decide) (fun (c26 : ¬ (r25 = 0)) => ?_) (fun (c26 : r25 = 0) => ?_)
          · skip
            refine lv_iinc (v := 1) (lv' := [(2, .int 1), (3, .int 0), (0, .ref h0), (1, .ref h1)]) hx hb dX7_tick_143 hl72 (k := 1) rfl (by decide +kernel) (by decide) rfl (fun ls87 hl87 => ?_)
            refine lv_goto (tgt := 82) hx hb dX7_tick_146 (by decide) ?_
            have e0 : t_X7_tick_2_Z F5 F14 = F5 := by rw [t_X7_tick_2_Z]; (try rw [hr19]); (try rw [hr25]); rw [if_neg c20, if_pos c24, if_neg c26]
            have e1 : t_X7_tick_2_f F5 F14 = upd F14 9 r19 := by rw [t_X7_tick_2_f]; (try rw [hr19]); (try rw [hr25]); rw [if_neg c20, if_pos c24, if_neg c26]
            exact cut2 F5 (upd F14 9 r19) _ _ _ e0 e1 hP85 hD86 hS84 (lv_sub hl87 [2, 3, 0, 1] rfl)
          · skip
            refine lv_aload_n hx hb dX7_tick_137 rfl (lv_at hl72 2 rfl) ?_
            refine lv_aload_n hx hb dX7_tick_138 rfl (lv_at hl72 3 rfl) ?_
            refine lv_iload_n hx hb dX7_tick_139 rfl (lv_at hl72 1 rfl) ?_
            refine k_callv (kRunV (As := [.ref h1, .int 0]) (rest := []) kx (c_X7_sendOn_0 l G F5 sd h0 q1 q2 q3 q4 q5 q6 q7 q8 q9 q10 q11 (upd F14 9 r19) h1) q_811 q_808 q_36 q_810 q_20 nX7_sendOn ⟨Nat.le_of_ble_eq_true rfl, Nat.le_of_ble_eq_true rfl⟩ hK hP85 hD86 (kCtx_all _) 0 7 rfl rfl rfl rfl hl72.1 (Nat.le_of_ble_eq_true rfl) dX7_tick_140 ⟨Nat.zero_le _, Nat.zero_le _⟩) hP85 hD86 hS84 hA (kCtx_all _) (fun _ => rfl) (fun u H88 locs88 hw hP88 hD88 hS88 => ?_)
            obtain ⟨F28, F29⟩ := u
            obtain ⟨hF28, hF29⟩ := hw
            have hF28 : s_X7_sendOn_0_Z F5 = F28 := (show F28 = s_X7_sendOn_0_Z F5 from hF28).symm
            have hF29 : s_X7_sendOn_0_f F5 (upd F14 9 r19) = F29 := (show F29 = s_X7_sendOn_0_f F5 (upd F14 9 r19) from hF29).symm
            have hP89 : va_P G.1 vwCl ([(h0, .inr (7, cM F28 q1 q2 q3 q4 q5 q6 q7 q8 q9 q10 q11 sd)), (h1, .inl (G.2.1, 55, .inl F29))]) H88 := hP88
            have hD90 : va_D A ([(h0, .inr (7, cM F28 q1 q2 q3 q4 q5 q6 q7 q8 q9 q10 q11 sd)), (h1, .inl (G.2.1, 55, .inl F29))]) := hD88
            refine lv_iinc (v := 1) (lv' := [(2, .int 1), (3, .int 0), (0, .ref h0), (1, .ref h1)]) hx hb dX7_tick_143 hl72 (k := 1) rfl (by decide +kernel) (by decide) rfl (fun ls91 hl91 => ?_)
            refine lv_goto (tgt := 82) hx hb dX7_tick_146 (by decide) ?_
            have e0 : t_X7_tick_2_Z F5 F14 = F28 := by rw [t_X7_tick_2_Z]; (try rw [hr19]); (try rw [hr25]); (try rw [hF28]); (try rw [hF29]); rw [if_neg c20, if_pos c24, if_pos c26]
            have e1 : t_X7_tick_2_f F5 F14 = F29 := by rw [t_X7_tick_2_f]; (try rw [hr19]); (try rw [hr25]); (try rw [hF28]); (try rw [hF29]); rw [if_neg c20, if_pos c24, if_pos c26]
            exact cut2 F28 F29 _ _ _ e0 e1 hP89 hD90 hS88 (lv_sub hl91 [2, 3, 0, 1] rfl)
    · skip
      refine lv_aload_n hx hb dX7_tick_40 rfl (lv_at hl12 2 rfl) ?_
      refine lv_iload_n hx hb dX7_tick_41 rfl (lv_at hl12 0 rfl) ?_
      refine k_calli (kRunS (As := [.ref h1, .int 16]) (rest := []) kx (c_X7_trusts_16 l G F14 h1) q_795 q_793 q_36 q_794 nX7_trusts ⟨Nat.le_of_ble_eq_true rfl, Nat.le_of_ble_eq_true rfl⟩ hK hP11 hD11 (kCtx_places _ _ [1] rfl rfl) rfl hl12.1 (Nat.le_of_ble_eq_true rfl) dX7_tick_42 ⟨Nat.zero_le _, Nat.zero_le _⟩) hP11 hD11 hS11 hA (kCtx_places _ _ [1] rfl rfl) (fun _ => rfl) (fun r56 _ H92 locs92 hw hP92 hD92 hS92 => ?_)
      have hr56 : r_X7_trusts_16 F14 = r56 := (show r56 = r_X7_trusts_16 F14 from hw).symm
      have hP93 : va_P G.1 vwCl ([(h0, .inr (7, cM F5 q1 q2 q3 q4 q5 q6 q7 q8 q9 q10 q11 sd)), (h1, .inl (G.2.1, 55, .inl F14))]) H92 := hP92
      have hD94 : va_D A ([(h0, .inr (7, cM F5 q1 q2 q3 q4 q5 q6 q7 q8 q9 q10 q11 sd)), (h1, .inl (G.2.1, 55, .inl F14))]) := hD92
      refine lv_if_ne (x := r56) (tgt := 74) hx hb dX7_tick_45 (by decide) (fun (c57 : ¬ (r56 = 0)) => ?_) (fun (c57 : r56 = 0) => ?_)
      · skip
        refine lv_iinc (v := 2) (lv' := [(2, .int 2), (3, .int 16), (0, .ref h0), (1, .ref h1)]) hx hb dX7_tick_74 hl12 (k := 3) rfl (by decide +kernel) (by decide) rfl (fun ls95 hl95 => ?_)
        refine lv_goto (tgt := 22) hx hb dX7_tick_77 (by decide) ?_
        refine lv_iload_n hx hb dX7_tick_22 rfl (lv_at hl95 0 rfl) ?_
        refine lv_iconst (v := 2) hx hb dX7_tick_23 (by decide) ?_
        refine lv_icmp_ge (x := 2) (y := 2) (tgt := 80) hx hb dX7_tick_24 (by decide) (fun (c58 : 2 ≤ 2) => ?_) (fun (c58 : ¬ (2 ≤ 2)) => absurd (by decide) c58)
        refine lv_iconst (v := 0) hx hb dX7_tick_80 (by decide) ?_
        refine lv_istore_n (lv' := [(2, .int 0), (3, .int 16), (0, .ref h0), (1, .ref h1)]) hx hb dX7_tick_81 rfl hl95 (by decide) rfl (fun ls96 hl96 => ?_)
        have cut3 : ∀ (F71 : Nat → Int32) (F72 : Nat → Int32) (H : Heap) (locs : List Loc) (ls : Array Slot), (hF71 : t_X7_tick_3_Z F5 F14 = F71) → (hF72 : t_X7_tick_3_f F5 F14 = F72) → va_P G.1 vwCl ([(h0, .inr (7, cM F71 q1 q2 q3 q4 q5 q6 q7 q8 q9 q10 q11 sd)), (h1, .inl (G.2.1, 55, .inl F72))]) H → va_D A ([(h0, .inr (7, cM F71 q1 q2 q3 q4 q5 q6 q7 q8 q9 q10 q11 sd)), (h1, .inl (G.2.1, 55, .inl F72))]) → va_S A s.heap H locs → lv_has ls 4 [(0, .ref h0), (1, .ref h1), (2, .int 1), (3, .int 0)] → W p l e (kr 4) s m args below meth c H locs 0 0 (MQ below (qV G (fun u : ((Nat → Int32) × (Nat → Int32)) => u.1 = s_X7_tick_Z Z f ∧ u.2 = s_X7_tick_f Z f) (fun u => [(h0, .inr (7, cM u.1 q1 q2 q3 q4 q5 q6 q7 q8 q9 q10 q11 sd)), (h1, .inl (G.2.1, 55, .inl u.2))]) A) args s 0 0 A) (F0 m 82 ls []) := by
          intro F71 F72 H97 locs97 ls97 hF71 hF72 hP97 hD97 hS97 hl97
          refine lv_iload_n hx hb dX7_tick_82 rfl (lv_at hl97 2 rfl) ?_
          refine lv_iconst (v := 2) hx hb dX7_tick_83 (by decide) ?_
          refine lv_icmp_ge (x := 1) (y := 2) (tgt := 149) hx hb dX7_tick_84 (by decide) (fun (c73 : 2 ≤ 1) => absurd c73 (by decide)) (fun (c73 : ¬ (2 ≤ 1)) => ?_)
          refine lv_bipush (v := 16) hx hb dX7_tick_87 (by decide) ?_
          refine lv_iload_n hx hb dX7_tick_89 rfl (lv_at hl97 2 rfl) ?_
          refine lv_imul hx hb dX7_tick_90 ?_
          refine k_top (y := 16) (by decide +kernel) ?_
          refine lv_istore_n (lv' := [(3, .int 16), (0, .ref h0), (1, .ref h1), (2, .int 1)]) hx hb dX7_tick_91 rfl hl97 (by decide) rfl (fun ls98 hl98 => ?_)
          refine lv_aload_n hx hb dX7_tick_92 rfl (lv_at hl98 2 rfl) ?_
          refine lv_iload_n hx hb dX7_tick_93 rfl (lv_at hl98 0 rfl) ?_
          refine lv_bipush (v := 9) hx hb dX7_tick_94 (by decide) ?_
          refine lv_iadd hx hb dX7_tick_96 ?_
          refine k_top (y := 25) (by decide +kernel) ?_
          refine lv_aload_n hx hb dX7_tick_97 rfl (lv_at hl98 2 rfl) ?_
          refine lv_iload_n hx hb dX7_tick_98 rfl (lv_at hl98 0 rfl) ?_
          refine lv_bipush (v := 9) hx hb dX7_tick_99 (by decide) ?_
          refine lv_iadd hx hb dX7_tick_101 ?_
          refine k_top (y := 25) (by decide +kernel) ?_
          refine k_iald (v := (F72 25)) kx hK hP97 1 rfl 25 rfl (by decide) (by decide) rfl dX7_tick_102 ?_
          refine lv_iconst (v := 1) hx hb dX7_tick_103 (by decide) ?_
          refine lv_isub hx hb dX7_tick_104 ?_
          refine lv_iconst (v := 0) hx hb dX7_tick_105 (by decide) ?_
          refine k_calli (kRunS (As := [.int ((F72 25) - 1), .int 0]) (rest := [.int 25, .ref h1]) kx (c_X7_max l G ((F72 25) - 1) 0) q_804 q_802 q_36 q_803 nX7_max ⟨Nat.le_of_ble_eq_true rfl, Nat.le_of_ble_eq_true rfl⟩ hK hP97 hD97 (kCtx_nil _) rfl hl98.1 (Nat.le_of_ble_eq_true rfl) dX7_tick_106 ⟨Nat.zero_le _, Nat.zero_le _⟩) hP97 hD97 hS97 hA (kCtx_nil _) (fun _ => rfl) (fun r74 _ H99 locs99 hw hP99 hD99 hS99 => ?_)
          have hr74 : r_X7_max ((F72 25) - 1) 0 = r74 := (show r74 = r_X7_max ((F72 25) - 1) 0 from hw).symm
          have hP100 : va_P G.1 vwCl ([(h0, .inr (7, cM F71 q1 q2 q3 q4 q5 q6 q7 q8 q9 q10 q11 sd)), (h1, .inl (G.2.1, 55, .inl F72))]) H99 := hP99
          have hD101 : va_D A ([(h0, .inr (7, cM F71 q1 q2 q3 q4 q5 q6 q7 q8 q9 q10 q11 sd)), (h1, .inl (G.2.1, 55, .inl F72))]) := hD99
          refine k_iast kx hK hP100 hD101 hS99 1 rfl 25 rfl (by decide) (by decide) dX7_tick_109 (fun H102 locs102 hP102 hD102 hS102 => ?_)
          have hP103 : va_P G.1 vwCl ([(h0, .inr (7, cM F71 q1 q2 q3 q4 q5 q6 q7 q8 q9 q10 q11 sd)), (h1, .inl (G.2.1, 55, .inl (upd F72 25 r74)))]) H102 := hP102
          have hD104 : va_D A ([(h0, .inr (7, cM F71 q1 q2 q3 q4 q5 q6 q7 q8 q9 q10 q11 sd)), (h1, .inl (G.2.1, 55, .inl (upd F72 25 r74)))]) := hD102
          refine lv_aload_n hx hb dX7_tick_110 rfl (lv_at hl98 2 rfl) ?_
          refine lv_iload_n hx hb dX7_tick_111 rfl (lv_at hl98 0 rfl) ?_
          refine lv_bipush (v := 10) hx hb dX7_tick_112 (by decide) ?_
          refine lv_iadd hx hb dX7_tick_114 ?_
          refine k_top (y := 26) (by decide +kernel) ?_
          refine k_iald (v := (F72 26)) kx hK hP103 1 rfl 26 rfl (by decide) (by decide) rfl dX7_tick_115 ?_
          refine lv_iconst (v := 1) hx hb dX7_tick_116 (by decide) ?_
          refine lv_icmp_eq (x := F72 26) (y := 1) (tgt := 137) hx hb dX7_tick_117 (by decide) (fun (c75 : F72 26 = 1) => ?_) (fun (c75 : ¬ (F72 26 = 1)) => ?_)
          · skip
            refine lv_aload_n hx hb dX7_tick_137 rfl (lv_at hl98 1 rfl) ?_
            refine lv_aload_n hx hb dX7_tick_138 rfl (lv_at hl98 2 rfl) ?_
            refine lv_iload_n hx hb dX7_tick_139 rfl (lv_at hl98 3 rfl) ?_
            refine k_callv (kRunV (As := [.ref h1, .int 1]) (rest := []) kx (c_X7_sendOn_1 l G F71 sd h0 q1 q2 q3 q4 q5 q6 q7 q8 q9 q10 q11 (upd F72 25 r74) h1) q_811 q_808 q_36 q_810 q_20 nX7_sendOn ⟨Nat.le_of_ble_eq_true rfl, Nat.le_of_ble_eq_true rfl⟩ hK hP103 hD104 (kCtx_all _) 0 7 rfl rfl rfl rfl hl98.1 (Nat.le_of_ble_eq_true rfl) dX7_tick_140 ⟨Nat.zero_le _, Nat.zero_le _⟩) hP103 hD104 hS102 hA (kCtx_all _) (fun _ => rfl) (fun u H105 locs105 hw hP105 hD105 hS105 => ?_)
            obtain ⟨F77, F78⟩ := u
            obtain ⟨hF77, hF78⟩ := hw
            have hF77 : s_X7_sendOn_1_Z F71 = F77 := (show F77 = s_X7_sendOn_1_Z F71 from hF77).symm
            have hF78 : s_X7_sendOn_1_f F71 (upd F72 25 r74) = F78 := (show F78 = s_X7_sendOn_1_f F71 (upd F72 25 r74) from hF78).symm
            have hP106 : va_P G.1 vwCl ([(h0, .inr (7, cM F77 q1 q2 q3 q4 q5 q6 q7 q8 q9 q10 q11 sd)), (h1, .inl (G.2.1, 55, .inl F78))]) H105 := hP105
            have hD107 : va_D A ([(h0, .inr (7, cM F77 q1 q2 q3 q4 q5 q6 q7 q8 q9 q10 q11 sd)), (h1, .inl (G.2.1, 55, .inl F78))]) := hD105
            refine lv_iinc (v := 2) (lv' := [(2, .int 2), (3, .int 16), (0, .ref h0), (1, .ref h1)]) hx hb dX7_tick_143 hl98 (k := 3) rfl (by decide +kernel) (by decide) rfl (fun ls108 hl108 => ?_)
            refine lv_goto (tgt := 82) hx hb dX7_tick_146 (by decide) ?_
            refine lv_iload_n hx hb dX7_tick_82 rfl (lv_at hl108 0 rfl) ?_
            refine lv_iconst (v := 2) hx hb dX7_tick_83 (by decide) ?_
            refine lv_icmp_ge (x := 2) (y := 2) (tgt := 149) hx hb dX7_tick_84 (by decide) (fun (c79 : 2 ≤ 2) => ?_) (fun (c79 : ¬ (2 ≤ 2)) => absurd (by decide) c79)
            refine lv_aload_n hx hb dX7_tick_149 rfl (lv_at hl108 3 rfl) ?_
            refine lv_bipush (v := 54) hx hb dX7_tick_150 (by decide) ?_
            refine lv_dup2_11 hx hb dX7_tick_152 rfl rfl ?_
            refine k_iald (v := (F78 54)) kx hK hP106 1 rfl 54 rfl (by decide) (by decide) rfl dX7_tick_153 ?_
            refine lv_aload_n hx hb dX7_tick_154 rfl (lv_at hl108 3 rfl) ?_
            refine lv_iconst (v := 5) hx hb dX7_tick_155 (by decide) ?_
            refine k_iald (v := (F78 5)) kx hK hP106 1 rfl 5 rfl (by decide) (by decide) rfl dX7_tick_156 ?_
            refine lv_iconst (v := 2) hx hb dX7_tick_157 (by decide) ?_
            refine lv_icmp_ne (x := F78 5) (y := 2) (tgt := 173) hx hb dX7_tick_158 (by decide) (fun (c80 : ¬ (F78 5 = 2)) => ?_) (fun (c80 : F78 5 = 2) => ?_)
            · skip
              refine lv_iconst (v := 0) hx hb dX7_tick_173 (by decide) ?_
              refine lv_iadd hx hb dX7_tick_174 ?_
              refine k_iast kx hK hP106 hD107 hS105 1 rfl 54 rfl (by decide) (by decide) dX7_tick_175 (fun H109 locs109 hP109 hD109 hS109 => ?_)
              have hP110 : va_P G.1 vwCl ([(h0, .inr (7, cM F77 q1 q2 q3 q4 q5 q6 q7 q8 q9 q10 q11 sd)), (h1, .inl (G.2.1, 55, .inl (upd F78 54 ((F78 54) + 0))))]) H109 := hP109
              have hD111 : va_D A ([(h0, .inr (7, cM F77 q1 q2 q3 q4 q5 q6 q7 q8 q9 q10 q11 sd)), (h1, .inl (G.2.1, 55, .inl (upd F78 54 ((F78 54) + 0))))]) := hD109
              have e0 : s_X7_tick_Z Z f = F77 := by rw [s_X7_tick_Z]; (try rw [hF2]); (try rw [hF3]); (try rw [hF5]); (try rw [hF6]); (try rw [hF14]); (try rw [hr56]); (try rw [hF71]); (try rw [hF72]); (try rw [hr74]); (try rw [hF77]); (try rw [hF78]); rw [if_neg c16, if_neg c57, if_pos c75, if_neg c80]
              have e1 : s_X7_tick_f Z f = upd F78 54 ((F78 54) + 0) := by rw [s_X7_tick_f]; (try rw [hF2]); (try rw [hF3]); (try rw [hF5]); (try rw [hF6]); (try rw [hF14]); (try rw [hr56]); (try rw [hF71]); (try rw [hF72]); (try rw [hr74]); (try rw [hF77]); (try rw [hF78]); rw [if_neg c16, if_neg c57, if_pos c75, if_neg c80]
              exact k_vret kx hK hP110 hD111 hS109 (u := (F77, upd F78 54 ((F78 54) + 0))) rfl ⟨e0.symm, e1.symm⟩ dX7_tick_176
            · skip
              refine lv_aload_n hx hb dX7_tick_161 rfl (lv_at hl108 3 rfl) ?_
              refine lv_bipush (v := 21) hx hb dX7_tick_162 (by decide) ?_
              refine k_iald (v := (F78 21)) kx hK hP106 1 rfl 21 rfl (by decide) (by decide) rfl dX7_tick_164 ?_
              refine lv_iconst (v := 2) hx hb dX7_tick_165 (by decide) ?_
              refine lv_icmp_ne (x := F78 21) (y := 2) (tgt := 173) hx hb dX7_tick_166 (by decide) (fun (c81 : ¬ (F78 21 = 2)) => ?_) (fun (c81 : F78 21 = 2) => ?_)
              · skip
                refine lv_iconst (v := 0) hx hb dX7_tick_173 (by decide) ?_
                refine lv_iadd hx hb dX7_tick_174 ?_
                refine k_iast kx hK hP106 hD107 hS105 1 rfl 54 rfl (by decide) (by decide) dX7_tick_175 (fun H112 locs112 hP112 hD112 hS112 => ?_)
                have hP113 : va_P G.1 vwCl ([(h0, .inr (7, cM F77 q1 q2 q3 q4 q5 q6 q7 q8 q9 q10 q11 sd)), (h1, .inl (G.2.1, 55, .inl (upd F78 54 ((F78 54) + 0))))]) H112 := hP112
                have hD114 : va_D A ([(h0, .inr (7, cM F77 q1 q2 q3 q4 q5 q6 q7 q8 q9 q10 q11 sd)), (h1, .inl (G.2.1, 55, .inl (upd F78 54 ((F78 54) + 0))))]) := hD112
                have e0 : s_X7_tick_Z Z f = F77 := by rw [s_X7_tick_Z]; (try rw [hF2]); (try rw [hF3]); (try rw [hF5]); (try rw [hF6]); (try rw [hF14]); (try rw [hr56]); (try rw [hF71]); (try rw [hF72]); (try rw [hr74]); (try rw [hF77]); (try rw [hF78]); rw [if_neg c16, if_neg c57, if_pos c75, if_pos c80, if_neg c81]
                have e1 : s_X7_tick_f Z f = upd F78 54 ((F78 54) + 0) := by rw [s_X7_tick_f]; (try rw [hF2]); (try rw [hF3]); (try rw [hF5]); (try rw [hF6]); (try rw [hF14]); (try rw [hr56]); (try rw [hF71]); (try rw [hF72]); (try rw [hr74]); (try rw [hF77]); (try rw [hF78]); rw [if_neg c16, if_neg c57, if_pos c75, if_pos c80, if_neg c81]
                exact k_vret kx hK hP113 hD114 hS112 (u := (F77, upd F78 54 ((F78 54) + 0))) rfl ⟨e0.symm, e1.symm⟩ dX7_tick_176
              · skip
                refine lv_iconst (v := 1) hx hb dX7_tick_169 (by decide) ?_
                refine lv_goto (tgt := 174) hx hb dX7_tick_170 (by decide) ?_
                refine lv_iadd hx hb dX7_tick_174 ?_
                refine k_iast kx hK hP106 hD107 hS105 1 rfl 54 rfl (by decide) (by decide) dX7_tick_175 (fun H115 locs115 hP115 hD115 hS115 => ?_)
                have hP116 : va_P G.1 vwCl ([(h0, .inr (7, cM F77 q1 q2 q3 q4 q5 q6 q7 q8 q9 q10 q11 sd)), (h1, .inl (G.2.1, 55, .inl (upd F78 54 ((F78 54) + 1))))]) H115 := hP115
                have hD117 : va_D A ([(h0, .inr (7, cM F77 q1 q2 q3 q4 q5 q6 q7 q8 q9 q10 q11 sd)), (h1, .inl (G.2.1, 55, .inl (upd F78 54 ((F78 54) + 1))))]) := hD115
                have e0 : s_X7_tick_Z Z f = F77 := by rw [s_X7_tick_Z]; (try rw [hF2]); (try rw [hF3]); (try rw [hF5]); (try rw [hF6]); (try rw [hF14]); (try rw [hr56]); (try rw [hF71]); (try rw [hF72]); (try rw [hr74]); (try rw [hF77]); (try rw [hF78]); rw [if_neg c16, if_neg c57, if_pos c75, if_pos c80, if_pos c81]
                have e1 : s_X7_tick_f Z f = upd F78 54 ((F78 54) + 1) := by rw [s_X7_tick_f]; (try rw [hF2]); (try rw [hF3]); (try rw [hF5]); (try rw [hF6]); (try rw [hF14]); (try rw [hr56]); (try rw [hF71]); (try rw [hF72]); (try rw [hr74]); (try rw [hF77]); (try rw [hF78]); rw [if_neg c16, if_neg c57, if_pos c75, if_pos c80, if_pos c81]
                exact k_vret kx hK hP116 hD117 hS115 (u := (F77, upd F78 54 ((F78 54) + 1))) rfl ⟨e0.symm, e1.symm⟩ dX7_tick_176
          · skip
            refine lv_aload_n hx hb dX7_tick_120 rfl (lv_at hl98 2 rfl) ?_
            refine lv_iload_n hx hb dX7_tick_121 rfl (lv_at hl98 0 rfl) ?_
            refine lv_bipush (v := 9) hx hb dX7_tick_122 (by decide) ?_
            refine lv_iadd hx hb dX7_tick_124 ?_
            refine k_top (y := 25) (by decide +kernel) ?_
            refine k_iald (v := r74) kx hK hP103 1 rfl 25 rfl (by decide) (by decide) rfl dX7_tick_125 ?_
            refine lv_if_ne (x := r74) (tgt := 143) hx hb dX7_tick_126 (by decide) (fun (c82 : ¬ (r74 = 0)) => ?_) (fun (c82 : r74 = 0) => ?_)
            · skip
              refine lv_iinc (v := 2) (lv' := [(2, .int 2), (3, .int 16), (0, .ref h0), (1, .ref h1)]) hx hb dX7_tick_143 hl98 (k := 3) rfl (by decide +kernel) (by decide) rfl (fun ls118 hl118 => ?_)
              refine lv_goto (tgt := 82) hx hb dX7_tick_146 (by decide) ?_
              refine lv_iload_n hx hb dX7_tick_82 rfl (lv_at hl118 0 rfl) ?_
              refine lv_iconst (v := 2) hx hb dX7_tick_83 (by decide) ?_
              refine lv_icmp_ge (x := 2) (y := 2) (tgt := 149) hx hb dX7_tick_84 (by decide) (fun (c83 : 2 ≤ 2) => ?_) (fun (c83 : ¬ (2 ≤ 2)) => absurd (by decide) c83)
              refine lv_aload_n hx hb dX7_tick_149 rfl (lv_at hl118 3 rfl) ?_
              refine lv_bipush (v := 54) hx hb dX7_tick_150 (by decide) ?_
              refine lv_dup2_11 hx hb dX7_tick_152 rfl rfl ?_
              refine k_iald (v := (F72 54)) kx hK hP103 1 rfl 54 rfl (by decide) (by decide) rfl dX7_tick_153 ?_
              refine lv_aload_n hx hb dX7_tick_154 rfl (lv_at hl118 3 rfl) ?_
              refine lv_iconst (v := 5) hx hb dX7_tick_155 (by decide) ?_
              refine k_iald (v := (F72 5)) kx hK hP103 1 rfl 5 rfl (by decide) (by decide) rfl dX7_tick_156 ?_
              refine lv_iconst (v := 2) hx hb dX7_tick_157 (by decide) ?_
              refine lv_icmp_ne (x := F72 5) (y := 2) (tgt := 173) hx hb dX7_tick_158 (by decide) (fun (c84 : ¬ (F72 5 = 2)) => ?_) (fun (c84 : F72 5 = 2) => ?_)
              · skip
                refine lv_iconst (v := 0) hx hb dX7_tick_173 (by decide) ?_
                refine lv_iadd hx hb dX7_tick_174 ?_
                refine k_iast kx hK hP103 hD104 hS102 1 rfl 54 rfl (by decide) (by decide) dX7_tick_175 (fun H119 locs119 hP119 hD119 hS119 => ?_)
                have hP120 : va_P G.1 vwCl ([(h0, .inr (7, cM F71 q1 q2 q3 q4 q5 q6 q7 q8 q9 q10 q11 sd)), (h1, .inl (G.2.1, 55, .inl (upd (upd F72 25 r74) 54 ((F72 54) + 0))))]) H119 := hP119
                have hD121 : va_D A ([(h0, .inr (7, cM F71 q1 q2 q3 q4 q5 q6 q7 q8 q9 q10 q11 sd)), (h1, .inl (G.2.1, 55, .inl (upd (upd F72 25 r74) 54 ((F72 54) + 0))))]) := hD119
                have e0 : s_X7_tick_Z Z f = F71 := by rw [s_X7_tick_Z]; (try rw [hF2]); (try rw [hF3]); (try rw [hF5]); (try rw [hF6]); (try rw [hF14]); (try rw [hr56]); (try rw [hF71]); (try rw [hF72]); (try rw [hr74]); rw [if_neg c16, if_neg c57, if_neg c75, if_neg c82, if_neg c84]
                have e1 : s_X7_tick_f Z f = upd (upd F72 25 r74) 54 ((F72 54) + 0) := by rw [s_X7_tick_f]; (try rw [hF2]); (try rw [hF3]); (try rw [hF5]); (try rw [hF6]); (try rw [hF14]); (try rw [hr56]); (try rw [hF71]); (try rw [hF72]); (try rw [hr74]); rw [if_neg c16, if_neg c57, if_neg c75, if_neg c82, if_neg c84]
                exact k_vret kx hK hP120 hD121 hS119 (u := (F71, upd (upd F72 25 r74) 54 ((F72 54) + 0))) rfl ⟨e0.symm, e1.symm⟩ dX7_tick_176
              · skip
                refine lv_aload_n hx hb dX7_tick_161 rfl (lv_at hl118 3 rfl) ?_
                refine lv_bipush (v := 21) hx hb dX7_tick_162 (by decide) ?_
                refine k_iald (v := (F72 21)) kx hK hP103 1 rfl 21 rfl (by decide) (by decide) rfl dX7_tick_164 ?_
                refine lv_iconst (v := 2) hx hb dX7_tick_165 (by decide) ?_
                refine lv_icmp_ne (x := F72 21) (y := 2) (tgt := 173) hx hb dX7_tick_166 (by decide) (fun (c85 : ¬ (F72 21 = 2)) => ?_) (fun (c85 : F72 21 = 2) => ?_)
                · skip
                  refine lv_iconst (v := 0) hx hb dX7_tick_173 (by decide) ?_
                  refine lv_iadd hx hb dX7_tick_174 ?_
                  refine k_iast kx hK hP103 hD104 hS102 1 rfl 54 rfl (by decide) (by decide) dX7_tick_175 (fun H122 locs122 hP122 hD122 hS122 => ?_)
                  have hP123 : va_P G.1 vwCl ([(h0, .inr (7, cM F71 q1 q2 q3 q4 q5 q6 q7 q8 q9 q10 q11 sd)), (h1, .inl (G.2.1, 55, .inl (upd (upd F72 25 r74) 54 ((F72 54) + 0))))]) H122 := hP122
                  have hD124 : va_D A ([(h0, .inr (7, cM F71 q1 q2 q3 q4 q5 q6 q7 q8 q9 q10 q11 sd)), (h1, .inl (G.2.1, 55, .inl (upd (upd F72 25 r74) 54 ((F72 54) + 0))))]) := hD122
                  have e0 : s_X7_tick_Z Z f = F71 := by rw [s_X7_tick_Z]; (try rw [hF2]); (try rw [hF3]); (try rw [hF5]); (try rw [hF6]); (try rw [hF14]); (try rw [hr56]); (try rw [hF71]); (try rw [hF72]); (try rw [hr74]); rw [if_neg c16, if_neg c57, if_neg c75, if_neg c82, if_pos c84, if_neg c85]
                  have e1 : s_X7_tick_f Z f = upd (upd F72 25 r74) 54 ((F72 54) + 0) := by rw [s_X7_tick_f]; (try rw [hF2]); (try rw [hF3]); (try rw [hF5]); (try rw [hF6]); (try rw [hF14]); (try rw [hr56]); (try rw [hF71]); (try rw [hF72]); (try rw [hr74]); rw [if_neg c16, if_neg c57, if_neg c75, if_neg c82, if_pos c84, if_neg c85]
                  exact k_vret kx hK hP123 hD124 hS122 (u := (F71, upd (upd F72 25 r74) 54 ((F72 54) + 0))) rfl ⟨e0.symm, e1.symm⟩ dX7_tick_176
                · skip
                  refine lv_iconst (v := 1) hx hb dX7_tick_169 (by decide) ?_
                  refine lv_goto (tgt := 174) hx hb dX7_tick_170 (by decide) ?_
                  refine lv_iadd hx hb dX7_tick_174 ?_
                  refine k_iast kx hK hP103 hD104 hS102 1 rfl 54 rfl (by decide) (by decide) dX7_tick_175 (fun H125 locs125 hP125 hD125 hS125 => ?_)
                  have hP126 : va_P G.1 vwCl ([(h0, .inr (7, cM F71 q1 q2 q3 q4 q5 q6 q7 q8 q9 q10 q11 sd)), (h1, .inl (G.2.1, 55, .inl (upd (upd F72 25 r74) 54 ((F72 54) + 1))))]) H125 := hP125
                  have hD127 : va_D A ([(h0, .inr (7, cM F71 q1 q2 q3 q4 q5 q6 q7 q8 q9 q10 q11 sd)), (h1, .inl (G.2.1, 55, .inl (upd (upd F72 25 r74) 54 ((F72 54) + 1))))]) := hD125
                  have e0 : s_X7_tick_Z Z f = F71 := by rw [s_X7_tick_Z]; (try rw [hF2]); (try rw [hF3]); (try rw [hF5]); (try rw [hF6]); (try rw [hF14]); (try rw [hr56]); (try rw [hF71]); (try rw [hF72]); (try rw [hr74]); rw [if_neg c16, if_neg c57, if_neg c75, if_neg c82, if_pos c84, if_pos c85]
                  have e1 : s_X7_tick_f Z f = upd (upd F72 25 r74) 54 ((F72 54) + 1) := by rw [s_X7_tick_f]; (try rw [hF2]); (try rw [hF3]); (try rw [hF5]); (try rw [hF6]); (try rw [hF14]); (try rw [hr56]); (try rw [hF71]); (try rw [hF72]); (try rw [hr74]); rw [if_neg c16, if_neg c57, if_neg c75, if_neg c82, if_pos c84, if_pos c85]
                  exact k_vret kx hK hP126 hD127 hS125 (u := (F71, upd (upd F72 25 r74) 54 ((F72 54) + 1))) rfl ⟨e0.symm, e1.symm⟩ dX7_tick_176
            · skip
              refine lv_aload_n hx hb dX7_tick_129 rfl (lv_at hl98 2 rfl) ?_
              refine lv_iload_n hx hb dX7_tick_130 rfl (lv_at hl98 0 rfl) ?_
              refine k_calli (kRunS (As := [.ref h1, .int 16]) (rest := []) kx (c_X7_isStill_16 l G (upd F72 25 r74) h1) q_807 q_805 q_36 q_806 nX7_isStill ⟨Nat.le_of_ble_eq_true rfl, Nat.le_of_ble_eq_true rfl⟩ hK hP103 hD104 (kCtx_places _ _ [1] rfl rfl) rfl hl98.1 (Nat.le_of_ble_eq_true rfl) dX7_tick_131 ⟨Nat.zero_le _, Nat.zero_le _⟩) hP103 hD104 hS102 hA (kCtx_places _ _ [1] rfl rfl) (fun _ => rfl) (fun r86 _ H128 locs128 hw hP128 hD128 hS128 => ?_)
              have hr86 : r_X7_isStill_16 (upd F72 25 r74) = r86 := (show r86 = r_X7_isStill_16 (upd F72 25 r74) from hw).symm
              have hP129 : va_P G.1 vwCl ([(h0, .inr (7, cM F71 q1 q2 q3 q4 q5 q6 q7 q8 q9 q10 q11 sd)), (h1, .inl (G.2.1, 55, .inl (upd F72 25 r74)))]) H128 := hP128
              have hD130 : va_D A ([(h0, .inr (7, cM F71 q1 q2 q3 q4 q5 q6 q7 q8 q9 q10 q11 sd)), (h1, .inl (G.2.1, 55, .inl (upd F72 25 r74)))]) := hD128
              refine lv_if_ne (x := r86) (tgt := 143) hx hb dX7_tick_134 (by decide) (fun (c87 : ¬ (r86 = 0)) => ?_) (fun (c87 : r86 = 0) => ?_)
              · skip
                refine lv_iinc (v := 2) (lv' := [(2, .int 2), (3, .int 16), (0, .ref h0), (1, .ref h1)]) hx hb dX7_tick_143 hl98 (k := 3) rfl (by decide +kernel) (by decide) rfl (fun ls131 hl131 => ?_)
                refine lv_goto (tgt := 82) hx hb dX7_tick_146 (by decide) ?_
                refine lv_iload_n hx hb dX7_tick_82 rfl (lv_at hl131 0 rfl) ?_
                refine lv_iconst (v := 2) hx hb dX7_tick_83 (by decide) ?_
                refine lv_icmp_ge (x := 2) (y := 2) (tgt := 149) hx hb dX7_tick_84 (by decide) (fun (c88 : 2 ≤ 2) => ?_) (fun (c88 : ¬ (2 ≤ 2)) => absurd (by decide) c88)
                refine lv_aload_n hx hb dX7_tick_149 rfl (lv_at hl131 3 rfl) ?_
                refine lv_bipush (v := 54) hx hb dX7_tick_150 (by decide) ?_
                refine lv_dup2_11 hx hb dX7_tick_152 rfl rfl ?_
                refine k_iald (v := (F72 54)) kx hK hP129 1 rfl 54 rfl (by decide) (by decide) rfl dX7_tick_153 ?_
                refine lv_aload_n hx hb dX7_tick_154 rfl (lv_at hl131 3 rfl) ?_
                refine lv_iconst (v := 5) hx hb dX7_tick_155 (by decide) ?_
                refine k_iald (v := (F72 5)) kx hK hP129 1 rfl 5 rfl (by decide) (by decide) rfl dX7_tick_156 ?_
                refine lv_iconst (v := 2) hx hb dX7_tick_157 (by decide) ?_
                refine lv_icmp_ne (x := F72 5) (y := 2) (tgt := 173) hx hb dX7_tick_158 (by decide) (fun (c89 : ¬ (F72 5 = 2)) => ?_) (fun (c89 : F72 5 = 2) => ?_)
                · skip
                  refine lv_iconst (v := 0) hx hb dX7_tick_173 (by decide) ?_
                  refine lv_iadd hx hb dX7_tick_174 ?_
                  refine k_iast kx hK hP129 hD130 hS128 1 rfl 54 rfl (by decide) (by decide) dX7_tick_175 (fun H132 locs132 hP132 hD132 hS132 => ?_)
                  have hP133 : va_P G.1 vwCl ([(h0, .inr (7, cM F71 q1 q2 q3 q4 q5 q6 q7 q8 q9 q10 q11 sd)), (h1, .inl (G.2.1, 55, .inl (upd (upd F72 25 r74) 54 ((F72 54) + 0))))]) H132 := hP132
                  have hD134 : va_D A ([(h0, .inr (7, cM F71 q1 q2 q3 q4 q5 q6 q7 q8 q9 q10 q11 sd)), (h1, .inl (G.2.1, 55, .inl (upd (upd F72 25 r74) 54 ((F72 54) + 0))))]) := hD132
                  have e0 : s_X7_tick_Z Z f = F71 := by rw [s_X7_tick_Z]; (try rw [hF2]); (try rw [hF3]); (try rw [hF5]); (try rw [hF6]); (try rw [hF14]); (try rw [hr56]); (try rw [hF71]); (try rw [hF72]); (try rw [hr74]); (try rw [hr86]); rw [if_neg c16, if_neg c57, if_neg c75, if_pos c82, if_neg c87, if_neg c89]
                  have e1 : s_X7_tick_f Z f = upd (upd F72 25 r74) 54 ((F72 54) + 0) := by rw [s_X7_tick_f]; (try rw [hF2]); (try rw [hF3]); (try rw [hF5]); (try rw [hF6]); (try rw [hF14]); (try rw [hr56]); (try rw [hF71]); (try rw [hF72]); (try rw [hr74]); (try rw [hr86]); rw [if_neg c16, if_neg c57, if_neg c75, if_pos c82, if_neg c87, if_neg c89]
                  exact k_vret kx hK hP133 hD134 hS132 (u := (F71, upd (upd F72 25 r74) 54 ((F72 54) + 0))) rfl ⟨e0.symm, e1.symm⟩ dX7_tick_176
                · skip
                  refine lv_aload_n hx hb dX7_tick_161 rfl (lv_at hl131 3 rfl) ?_
                  refine lv_bipush (v := 21) hx hb dX7_tick_162 (by decide) ?_
                  refine k_iald (v := (F72 21)) kx hK hP129 1 rfl 21 rfl (by decide) (by decide) rfl dX7_tick_164 ?_
                  refine lv_iconst (v := 2) hx hb dX7_tick_165 (by decide) ?_
                  refine lv_icmp_ne (x := F72 21) (y := 2) (tgt := 173) hx hb dX7_tick_166 (by decide) (fun (c90 : ¬ (F72 21 = 2)) => ?_) (fun (c90 : F72 21 = 2) => ?_)
                  · skip
                    refine lv_iconst (v := 0) hx hb dX7_tick_173 (by decide) ?_
                    refine lv_iadd hx hb dX7_tick_174 ?_
                    refine k_iast kx hK hP129 hD130 hS128 1 rfl 54 rfl (by decide) (by decide) dX7_tick_175 (fun H135 locs135 hP135 hD135 hS135 => ?_)
                    have hP136 : va_P G.1 vwCl ([(h0, .inr (7, cM F71 q1 q2 q3 q4 q5 q6 q7 q8 q9 q10 q11 sd)), (h1, .inl (G.2.1, 55, .inl (upd (upd F72 25 r74) 54 ((F72 54) + 0))))]) H135 := hP135
                    have hD137 : va_D A ([(h0, .inr (7, cM F71 q1 q2 q3 q4 q5 q6 q7 q8 q9 q10 q11 sd)), (h1, .inl (G.2.1, 55, .inl (upd (upd F72 25 r74) 54 ((F72 54) + 0))))]) := hD135
                    have e0 : s_X7_tick_Z Z f = F71 := by rw [s_X7_tick_Z]; (try rw [hF2]); (try rw [hF3]); (try rw [hF5]); (try rw [hF6]); (try rw [hF14]); (try rw [hr56]); (try rw [hF71]); (try rw [hF72]); (try rw [hr74]); (try rw [hr86]); rw [if_neg c16, if_neg c57, if_neg c75, if_pos c82, if_neg c87, if_pos c89, if_neg c90]
                    have e1 : s_X7_tick_f Z f = upd (upd F72 25 r74) 54 ((F72 54) + 0) := by rw [s_X7_tick_f]; (try rw [hF2]); (try rw [hF3]); (try rw [hF5]); (try rw [hF6]); (try rw [hF14]); (try rw [hr56]); (try rw [hF71]); (try rw [hF72]); (try rw [hr74]); (try rw [hr86]); rw [if_neg c16, if_neg c57, if_neg c75, if_pos c82, if_neg c87, if_pos c89, if_neg c90]
                    exact k_vret kx hK hP136 hD137 hS135 (u := (F71, upd (upd F72 25 r74) 54 ((F72 54) + 0))) rfl ⟨e0.symm, e1.symm⟩ dX7_tick_176
                  · skip
                    refine lv_iconst (v := 1) hx hb dX7_tick_169 (by decide) ?_
                    refine lv_goto (tgt := 174) hx hb dX7_tick_170 (by decide) ?_
                    refine lv_iadd hx hb dX7_tick_174 ?_
                    refine k_iast kx hK hP129 hD130 hS128 1 rfl 54 rfl (by decide) (by decide) dX7_tick_175 (fun H138 locs138 hP138 hD138 hS138 => ?_)
                    have hP139 : va_P G.1 vwCl ([(h0, .inr (7, cM F71 q1 q2 q3 q4 q5 q6 q7 q8 q9 q10 q11 sd)), (h1, .inl (G.2.1, 55, .inl (upd (upd F72 25 r74) 54 ((F72 54) + 1))))]) H138 := hP138
                    have hD140 : va_D A ([(h0, .inr (7, cM F71 q1 q2 q3 q4 q5 q6 q7 q8 q9 q10 q11 sd)), (h1, .inl (G.2.1, 55, .inl (upd (upd F72 25 r74) 54 ((F72 54) + 1))))]) := hD138
                    have e0 : s_X7_tick_Z Z f = F71 := by rw [s_X7_tick_Z]; (try rw [hF2]); (try rw [hF3]); (try rw [hF5]); (try rw [hF6]); (try rw [hF14]); (try rw [hr56]); (try rw [hF71]); (try rw [hF72]); (try rw [hr74]); (try rw [hr86]); rw [if_neg c16, if_neg c57, if_neg c75, if_pos c82, if_neg c87, if_pos c89, if_pos c90]
                    have e1 : s_X7_tick_f Z f = upd (upd F72 25 r74) 54 ((F72 54) + 1) := by rw [s_X7_tick_f]; (try rw [hF2]); (try rw [hF3]); (try rw [hF5]); (try rw [hF6]); (try rw [hF14]); (try rw [hr56]); (try rw [hF71]); (try rw [hF72]); (try rw [hr74]); (try rw [hr86]); rw [if_neg c16, if_neg c57, if_neg c75, if_pos c82, if_neg c87, if_pos c89, if_pos c90]
                    exact k_vret kx hK hP139 hD140 hS138 (u := (F71, upd (upd F72 25 r74) 54 ((F72 54) + 1))) rfl ⟨e0.symm, e1.symm⟩ dX7_tick_176
              · skip
                refine lv_aload_n hx hb dX7_tick_137 rfl (lv_at hl98 1 rfl) ?_
                refine lv_aload_n hx hb dX7_tick_138 rfl (lv_at hl98 2 rfl) ?_
                refine lv_iload_n hx hb dX7_tick_139 rfl (lv_at hl98 3 rfl) ?_
                refine k_callv (kRunV (As := [.ref h1, .int 1]) (rest := []) kx (c_X7_sendOn_1 l G F71 sd h0 q1 q2 q3 q4 q5 q6 q7 q8 q9 q10 q11 (upd F72 25 r74) h1) q_811 q_808 q_36 q_810 q_20 nX7_sendOn ⟨Nat.le_of_ble_eq_true rfl, Nat.le_of_ble_eq_true rfl⟩ hK hP129 hD130 (kCtx_all _) 0 7 rfl rfl rfl rfl hl98.1 (Nat.le_of_ble_eq_true rfl) dX7_tick_140 ⟨Nat.zero_le _, Nat.zero_le _⟩) hP129 hD130 hS128 hA (kCtx_all _) (fun _ => rfl) (fun u H141 locs141 hw hP141 hD141 hS141 => ?_)
                obtain ⟨F92, F93⟩ := u
                obtain ⟨hF92, hF93⟩ := hw
                have hF92 : s_X7_sendOn_1_Z F71 = F92 := (show F92 = s_X7_sendOn_1_Z F71 from hF92).symm
                have hF93 : s_X7_sendOn_1_f F71 (upd F72 25 r74) = F93 := (show F93 = s_X7_sendOn_1_f F71 (upd F72 25 r74) from hF93).symm
                have hP142 : va_P G.1 vwCl ([(h0, .inr (7, cM F92 q1 q2 q3 q4 q5 q6 q7 q8 q9 q10 q11 sd)), (h1, .inl (G.2.1, 55, .inl F93))]) H141 := hP141
                have hD143 : va_D A ([(h0, .inr (7, cM F92 q1 q2 q3 q4 q5 q6 q7 q8 q9 q10 q11 sd)), (h1, .inl (G.2.1, 55, .inl F93))]) := hD141
                refine lv_iinc (v := 2) (lv' := [(2, .int 2), (3, .int 16), (0, .ref h0), (1, .ref h1)]) hx hb dX7_tick_143 hl98 (k := 3) rfl (by decide +kernel) (by decide) rfl (fun ls144 hl144 => ?_)
                refine lv_goto (tgt := 82) hx hb dX7_tick_146 (by decide) ?_
                refine lv_iload_n hx hb dX7_tick_82 rfl (lv_at hl144 0 rfl) ?_
                refine lv_iconst (v := 2) hx hb dX7_tick_83 (by decide) ?_
                refine lv_icmp_ge (x := 2) (y := 2) (tgt := 149) hx hb dX7_tick_84 (by decide) (fun (c94 : 2 ≤ 2) => ?_) (fun (c94 : ¬ (2 ≤ 2)) => absurd (by decide) c94)
                refine lv_aload_n hx hb dX7_tick_149 rfl (lv_at hl144 3 rfl) ?_
                refine lv_bipush (v := 54) hx hb dX7_tick_150 (by decide) ?_
                refine lv_dup2_11 hx hb dX7_tick_152 rfl rfl ?_
                refine k_iald (v := (F93 54)) kx hK hP142 1 rfl 54 rfl (by decide) (by decide) rfl dX7_tick_153 ?_
                refine lv_aload_n hx hb dX7_tick_154 rfl (lv_at hl144 3 rfl) ?_
                refine lv_iconst (v := 5) hx hb dX7_tick_155 (by decide) ?_
                refine k_iald (v := (F93 5)) kx hK hP142 1 rfl 5 rfl (by decide) (by decide) rfl dX7_tick_156 ?_
                refine lv_iconst (v := 2) hx hb dX7_tick_157 (by decide) ?_
                refine lv_icmp_ne (x := F93 5) (y := 2) (tgt := 173) hx hb dX7_tick_158 (by decide) (fun (c95 : ¬ (F93 5 = 2)) => ?_) (fun (c95 : F93 5 = 2) => ?_)
                · skip
                  refine lv_iconst (v := 0) hx hb dX7_tick_173 (by decide) ?_
                  refine lv_iadd hx hb dX7_tick_174 ?_
                  refine k_iast kx hK hP142 hD143 hS141 1 rfl 54 rfl (by decide) (by decide) dX7_tick_175 (fun H145 locs145 hP145 hD145 hS145 => ?_)
                  have hP146 : va_P G.1 vwCl ([(h0, .inr (7, cM F92 q1 q2 q3 q4 q5 q6 q7 q8 q9 q10 q11 sd)), (h1, .inl (G.2.1, 55, .inl (upd F93 54 ((F93 54) + 0))))]) H145 := hP145
                  have hD147 : va_D A ([(h0, .inr (7, cM F92 q1 q2 q3 q4 q5 q6 q7 q8 q9 q10 q11 sd)), (h1, .inl (G.2.1, 55, .inl (upd F93 54 ((F93 54) + 0))))]) := hD145
                  have e0 : s_X7_tick_Z Z f = F92 := by rw [s_X7_tick_Z]; (try rw [hF2]); (try rw [hF3]); (try rw [hF5]); (try rw [hF6]); (try rw [hF14]); (try rw [hr56]); (try rw [hF71]); (try rw [hF72]); (try rw [hr74]); (try rw [hr86]); (try rw [hF92]); (try rw [hF93]); rw [if_neg c16, if_neg c57, if_neg c75, if_pos c82, if_pos c87, if_neg c95]
                  have e1 : s_X7_tick_f Z f = upd F93 54 ((F93 54) + 0) := by rw [s_X7_tick_f]; (try rw [hF2]); (try rw [hF3]); (try rw [hF5]); (try rw [hF6]); (try rw [hF14]); (try rw [hr56]); (try rw [hF71]); (try rw [hF72]); (try rw [hr74]); (try rw [hr86]); (try rw [hF92]); (try rw [hF93]); rw [if_neg c16, if_neg c57, if_neg c75, if_pos c82, if_pos c87, if_neg c95]
                  exact k_vret kx hK hP146 hD147 hS145 (u := (F92, upd F93 54 ((F93 54) + 0))) rfl ⟨e0.symm, e1.symm⟩ dX7_tick_176
                · skip
                  refine lv_aload_n hx hb dX7_tick_161 rfl (lv_at hl144 3 rfl) ?_
                  refine lv_bipush (v := 21) hx hb dX7_tick_162 (by decide) ?_
                  refine k_iald (v := (F93 21)) kx hK hP142 1 rfl 21 rfl (by decide) (by decide) rfl dX7_tick_164 ?_
                  refine lv_iconst (v := 2) hx hb dX7_tick_165 (by decide) ?_
                  refine lv_icmp_ne (x := F93 21) (y := 2) (tgt := 173) hx hb dX7_tick_166 (by decide) (fun (c96 : ¬ (F93 21 = 2)) => ?_) (fun (c96 : F93 21 = 2) => ?_)
                  · skip
                    refine lv_iconst (v := 0) hx hb dX7_tick_173 (by decide) ?_
                    refine lv_iadd hx hb dX7_tick_174 ?_
                    refine k_iast kx hK hP142 hD143 hS141 1 rfl 54 rfl (by decide) (by decide) dX7_tick_175 (fun H148 locs148 hP148 hD148 hS148 => ?_)
                    have hP149 : va_P G.1 vwCl ([(h0, .inr (7, cM F92 q1 q2 q3 q4 q5 q6 q7 q8 q9 q10 q11 sd)), (h1, .inl (G.2.1, 55, .inl (upd F93 54 ((F93 54) + 0))))]) H148 := hP148
                    have hD150 : va_D A ([(h0, .inr (7, cM F92 q1 q2 q3 q4 q5 q6 q7 q8 q9 q10 q11 sd)), (h1, .inl (G.2.1, 55, .inl (upd F93 54 ((F93 54) + 0))))]) := hD148
                    have e0 : s_X7_tick_Z Z f = F92 := by rw [s_X7_tick_Z]; (try rw [hF2]); (try rw [hF3]); (try rw [hF5]); (try rw [hF6]); (try rw [hF14]); (try rw [hr56]); (try rw [hF71]); (try rw [hF72]); (try rw [hr74]); (try rw [hr86]); (try rw [hF92]); (try rw [hF93]); rw [if_neg c16, if_neg c57, if_neg c75, if_pos c82, if_pos c87, if_pos c95, if_neg c96]
                    have e1 : s_X7_tick_f Z f = upd F93 54 ((F93 54) + 0) := by rw [s_X7_tick_f]; (try rw [hF2]); (try rw [hF3]); (try rw [hF5]); (try rw [hF6]); (try rw [hF14]); (try rw [hr56]); (try rw [hF71]); (try rw [hF72]); (try rw [hr74]); (try rw [hr86]); (try rw [hF92]); (try rw [hF93]); rw [if_neg c16, if_neg c57, if_neg c75, if_pos c82, if_pos c87, if_pos c95, if_neg c96]
                    exact k_vret kx hK hP149 hD150 hS148 (u := (F92, upd F93 54 ((F93 54) + 0))) rfl ⟨e0.symm, e1.symm⟩ dX7_tick_176
                  · skip
                    refine lv_iconst (v := 1) hx hb dX7_tick_169 (by decide) ?_
                    refine lv_goto (tgt := 174) hx hb dX7_tick_170 (by decide) ?_
                    refine lv_iadd hx hb dX7_tick_174 ?_
                    refine k_iast kx hK hP142 hD143 hS141 1 rfl 54 rfl (by decide) (by decide) dX7_tick_175 (fun H151 locs151 hP151 hD151 hS151 => ?_)
                    have hP152 : va_P G.1 vwCl ([(h0, .inr (7, cM F92 q1 q2 q3 q4 q5 q6 q7 q8 q9 q10 q11 sd)), (h1, .inl (G.2.1, 55, .inl (upd F93 54 ((F93 54) + 1))))]) H151 := hP151
                    have hD153 : va_D A ([(h0, .inr (7, cM F92 q1 q2 q3 q4 q5 q6 q7 q8 q9 q10 q11 sd)), (h1, .inl (G.2.1, 55, .inl (upd F93 54 ((F93 54) + 1))))]) := hD151
                    have e0 : s_X7_tick_Z Z f = F92 := by rw [s_X7_tick_Z]; (try rw [hF2]); (try rw [hF3]); (try rw [hF5]); (try rw [hF6]); (try rw [hF14]); (try rw [hr56]); (try rw [hF71]); (try rw [hF72]); (try rw [hr74]); (try rw [hr86]); (try rw [hF92]); (try rw [hF93]); rw [if_neg c16, if_neg c57, if_neg c75, if_pos c82, if_pos c87, if_pos c95, if_pos c96]
                    have e1 : s_X7_tick_f Z f = upd F93 54 ((F93 54) + 1) := by rw [s_X7_tick_f]; (try rw [hF2]); (try rw [hF3]); (try rw [hF5]); (try rw [hF6]); (try rw [hF14]); (try rw [hr56]); (try rw [hF71]); (try rw [hF72]); (try rw [hr74]); (try rw [hr86]); (try rw [hF92]); (try rw [hF93]); rw [if_neg c16, if_neg c57, if_neg c75, if_pos c82, if_pos c87, if_pos c95, if_pos c96]
                    exact k_vret kx hK hP152 hD153 hS151 (u := (F92, upd F93 54 ((F93 54) + 1))) rfl ⟨e0.symm, e1.symm⟩ dX7_tick_176
        refine lv_iload_n hx hb dX7_tick_82 rfl (lv_at hl96 0 rfl) ?_
        refine lv_iconst (v := 2) hx hb dX7_tick_83 (by decide) ?_
        refine lv_icmp_ge (x := 0) (y := 2) (tgt := 149) hx hb dX7_tick_84 (by decide) (fun (c59 : 2 ≤ 0) => absurd c59 (by decide)) (fun (c59 : ¬ (2 ≤ 0)) => ?_)
        refine lv_bipush (v := 16) hx hb dX7_tick_87 (by decide) ?_
        refine lv_iload_n hx hb dX7_tick_89 rfl (lv_at hl96 0 rfl) ?_
        refine lv_imul hx hb dX7_tick_90 ?_
        refine k_top (y := 0) (by decide +kernel) ?_
        refine lv_istore_n (lv' := [(3, .int 0), (2, .int 0), (0, .ref h0), (1, .ref h1)]) hx hb dX7_tick_91 rfl hl96 (by decide) rfl (fun ls154 hl154 => ?_)
        refine lv_aload_n hx hb dX7_tick_92 rfl (lv_at hl154 3 rfl) ?_
        refine lv_iload_n hx hb dX7_tick_93 rfl (lv_at hl154 0 rfl) ?_
        refine lv_bipush (v := 9) hx hb dX7_tick_94 (by decide) ?_
        refine lv_iadd hx hb dX7_tick_96 ?_
        refine k_top (y := 9) (by decide +kernel) ?_
        refine lv_aload_n hx hb dX7_tick_97 rfl (lv_at hl154 3 rfl) ?_
        refine lv_iload_n hx hb dX7_tick_98 rfl (lv_at hl154 0 rfl) ?_
        refine lv_bipush (v := 9) hx hb dX7_tick_99 (by decide) ?_
        refine lv_iadd hx hb dX7_tick_101 ?_
        refine k_top (y := 9) (by decide +kernel) ?_
        refine k_iald (v := (F14 9)) kx hK hP93 1 rfl 9 rfl (by decide) (by decide) rfl dX7_tick_102 ?_
        refine lv_iconst (v := 1) hx hb dX7_tick_103 (by decide) ?_
        refine lv_isub hx hb dX7_tick_104 ?_
        refine lv_iconst (v := 0) hx hb dX7_tick_105 (by decide) ?_
        refine k_calli (kRunS (As := [.int ((F14 9) - 1), .int 0]) (rest := [.int 9, .ref h1]) kx (c_X7_max l G ((F14 9) - 1) 0) q_804 q_802 q_36 q_803 nX7_max ⟨Nat.le_of_ble_eq_true rfl, Nat.le_of_ble_eq_true rfl⟩ hK hP93 hD94 (kCtx_nil _) rfl hl154.1 (Nat.le_of_ble_eq_true rfl) dX7_tick_106 ⟨Nat.zero_le _, Nat.zero_le _⟩) hP93 hD94 hS92 hA (kCtx_nil _) (fun _ => rfl) (fun r60 _ H155 locs155 hw hP155 hD155 hS155 => ?_)
        have hr60 : r_X7_max ((F14 9) - 1) 0 = r60 := (show r60 = r_X7_max ((F14 9) - 1) 0 from hw).symm
        have hP156 : va_P G.1 vwCl ([(h0, .inr (7, cM F5 q1 q2 q3 q4 q5 q6 q7 q8 q9 q10 q11 sd)), (h1, .inl (G.2.1, 55, .inl F14))]) H155 := hP155
        have hD157 : va_D A ([(h0, .inr (7, cM F5 q1 q2 q3 q4 q5 q6 q7 q8 q9 q10 q11 sd)), (h1, .inl (G.2.1, 55, .inl F14))]) := hD155
        refine k_iast kx hK hP156 hD157 hS155 1 rfl 9 rfl (by decide) (by decide) dX7_tick_109 (fun H158 locs158 hP158 hD158 hS158 => ?_)
        have hP159 : va_P G.1 vwCl ([(h0, .inr (7, cM F5 q1 q2 q3 q4 q5 q6 q7 q8 q9 q10 q11 sd)), (h1, .inl (G.2.1, 55, .inl (upd F14 9 r60)))]) H158 := hP158
        have hD160 : va_D A ([(h0, .inr (7, cM F5 q1 q2 q3 q4 q5 q6 q7 q8 q9 q10 q11 sd)), (h1, .inl (G.2.1, 55, .inl (upd F14 9 r60)))]) := hD158
        refine lv_aload_n hx hb dX7_tick_110 rfl (lv_at hl154 3 rfl) ?_
        refine lv_iload_n hx hb dX7_tick_111 rfl (lv_at hl154 0 rfl) ?_
        refine lv_bipush (v := 10) hx hb dX7_tick_112 (by decide) ?_
        refine lv_iadd hx hb dX7_tick_114 ?_
        refine k_top (y := 10) (by decide +kernel) ?_
        refine k_iald (v := (F14 10)) kx hK hP159 1 rfl 10 rfl (by decide) (by decide) rfl dX7_tick_115 ?_
        refine lv_iconst (v := 1) hx hb dX7_tick_116 (by decide) ?_
        refine lv_icmp_eq (x := F14 10) (y := 1) (tgt := 137) hx hb dX7_tick_117 (by decide) (fun (c61 : F14 10 = 1) => ?_) (fun (c61 : ¬ (F14 10 = 1)) => ?_)
        · skip
          refine lv_aload_n hx hb dX7_tick_137 rfl (lv_at hl154 2 rfl) ?_
          refine lv_aload_n hx hb dX7_tick_138 rfl (lv_at hl154 3 rfl) ?_
          refine lv_iload_n hx hb dX7_tick_139 rfl (lv_at hl154 1 rfl) ?_
          refine k_callv (kRunV (As := [.ref h1, .int 0]) (rest := []) kx (c_X7_sendOn_0 l G F5 sd h0 q1 q2 q3 q4 q5 q6 q7 q8 q9 q10 q11 (upd F14 9 r60) h1) q_811 q_808 q_36 q_810 q_20 nX7_sendOn ⟨Nat.le_of_ble_eq_true rfl, Nat.le_of_ble_eq_true rfl⟩ hK hP159 hD160 (kCtx_all _) 0 7 rfl rfl rfl rfl hl154.1 (Nat.le_of_ble_eq_true rfl) dX7_tick_140 ⟨Nat.zero_le _, Nat.zero_le _⟩) hP159 hD160 hS158 hA (kCtx_all _) (fun _ => rfl) (fun u H161 locs161 hw hP161 hD161 hS161 => ?_)
          obtain ⟨F63, F64⟩ := u
          obtain ⟨hF63, hF64⟩ := hw
          have hF63 : s_X7_sendOn_0_Z F5 = F63 := (show F63 = s_X7_sendOn_0_Z F5 from hF63).symm
          have hF64 : s_X7_sendOn_0_f F5 (upd F14 9 r60) = F64 := (show F64 = s_X7_sendOn_0_f F5 (upd F14 9 r60) from hF64).symm
          have hP162 : va_P G.1 vwCl ([(h0, .inr (7, cM F63 q1 q2 q3 q4 q5 q6 q7 q8 q9 q10 q11 sd)), (h1, .inl (G.2.1, 55, .inl F64))]) H161 := hP161
          have hD163 : va_D A ([(h0, .inr (7, cM F63 q1 q2 q3 q4 q5 q6 q7 q8 q9 q10 q11 sd)), (h1, .inl (G.2.1, 55, .inl F64))]) := hD161
          refine lv_iinc (v := 1) (lv' := [(2, .int 1), (3, .int 0), (0, .ref h0), (1, .ref h1)]) hx hb dX7_tick_143 hl154 (k := 1) rfl (by decide +kernel) (by decide) rfl (fun ls164 hl164 => ?_)
          refine lv_goto (tgt := 82) hx hb dX7_tick_146 (by decide) ?_
          have e0 : t_X7_tick_3_Z F5 F14 = F63 := by rw [t_X7_tick_3_Z]; (try rw [hr60]); (try rw [hF63]); (try rw [hF64]); rw [if_pos c61]
          have e1 : t_X7_tick_3_f F5 F14 = F64 := by rw [t_X7_tick_3_f]; (try rw [hr60]); (try rw [hF63]); (try rw [hF64]); rw [if_pos c61]
          exact cut3 F63 F64 _ _ _ e0 e1 hP162 hD163 hS161 (lv_sub hl164 [2, 3, 0, 1] rfl)
        · skip
          refine lv_aload_n hx hb dX7_tick_120 rfl (lv_at hl154 3 rfl) ?_
          refine lv_iload_n hx hb dX7_tick_121 rfl (lv_at hl154 0 rfl) ?_
          refine lv_bipush (v := 9) hx hb dX7_tick_122 (by decide) ?_
          refine lv_iadd hx hb dX7_tick_124 ?_
          refine k_top (y := 9) (by decide +kernel) ?_
          refine k_iald (v := r60) kx hK hP159 1 rfl 9 rfl (by decide) (by decide) rfl dX7_tick_125 ?_
          refine lv_if_ne (x := r60) (tgt := 143) hx hb dX7_tick_126 (by decide) (fun (c65 : ¬ (r60 = 0)) => ?_) (fun (c65 : r60 = 0) => ?_)
          · skip
            refine lv_iinc (v := 1) (lv' := [(2, .int 1), (3, .int 0), (0, .ref h0), (1, .ref h1)]) hx hb dX7_tick_143 hl154 (k := 1) rfl (by decide +kernel) (by decide) rfl (fun ls165 hl165 => ?_)
            refine lv_goto (tgt := 82) hx hb dX7_tick_146 (by decide) ?_
            have e0 : t_X7_tick_3_Z F5 F14 = F5 := by rw [t_X7_tick_3_Z]; (try rw [hr60]); rw [if_neg c61, if_neg c65]
            have e1 : t_X7_tick_3_f F5 F14 = upd F14 9 r60 := by rw [t_X7_tick_3_f]; (try rw [hr60]); rw [if_neg c61, if_neg c65]
            exact cut3 F5 (upd F14 9 r60) _ _ _ e0 e1 hP159 hD160 hS158 (lv_sub hl165 [2, 3, 0, 1] rfl)
          · skip
            refine lv_aload_n hx hb dX7_tick_129 rfl (lv_at hl154 3 rfl) ?_
            refine lv_iload_n hx hb dX7_tick_130 rfl (lv_at hl154 0 rfl) ?_
            refine k_calli (kRunS (As := [.ref h1, .int 0]) (rest := []) kx (c_X7_isStill_0 l G (upd F14 9 r60) h1) q_807 q_805 q_36 q_806 nX7_isStill ⟨Nat.le_of_ble_eq_true rfl, Nat.le_of_ble_eq_true rfl⟩ hK hP159 hD160 (kCtx_places _ _ [1] rfl rfl) rfl hl154.1 (Nat.le_of_ble_eq_true rfl) dX7_tick_131 ⟨Nat.zero_le _, Nat.zero_le _⟩) hP159 hD160 hS158 hA (kCtx_places _ _ [1] rfl rfl) (fun _ => rfl) (fun r66 _ H166 locs166 hw hP166 hD166 hS166 => ?_)
            have hr66 : r_X7_isStill_0 (upd F14 9 r60) = r66 := (show r66 = r_X7_isStill_0 (upd F14 9 r60) from hw).symm
            have hP167 : va_P G.1 vwCl ([(h0, .inr (7, cM F5 q1 q2 q3 q4 q5 q6 q7 q8 q9 q10 q11 sd)), (h1, .inl (G.2.1, 55, .inl (upd F14 9 r60)))]) H166 := hP166
            have hD168 : va_D A ([(h0, .inr (7, cM F5 q1 q2 q3 q4 q5 q6 q7 q8 q9 q10 q11 sd)), (h1, .inl (G.2.1, 55, .inl (upd F14 9 r60)))]) := hD166
            refine lv_if_ne (x := r66) (tgt := 143) hx hb dX7_tick_134 (by decide) (fun (c67 : ¬ (r66 = 0)) => ?_) (fun (c67 : r66 = 0) => ?_)
            · skip
              refine lv_iinc (v := 1) (lv' := [(2, .int 1), (3, .int 0), (0, .ref h0), (1, .ref h1)]) hx hb dX7_tick_143 hl154 (k := 1) rfl (by decide +kernel) (by decide) rfl (fun ls169 hl169 => ?_)
              refine lv_goto (tgt := 82) hx hb dX7_tick_146 (by decide) ?_
              have e0 : t_X7_tick_3_Z F5 F14 = F5 := by rw [t_X7_tick_3_Z]; (try rw [hr60]); (try rw [hr66]); rw [if_neg c61, if_pos c65, if_neg c67]
              have e1 : t_X7_tick_3_f F5 F14 = upd F14 9 r60 := by rw [t_X7_tick_3_f]; (try rw [hr60]); (try rw [hr66]); rw [if_neg c61, if_pos c65, if_neg c67]
              exact cut3 F5 (upd F14 9 r60) _ _ _ e0 e1 hP167 hD168 hS166 (lv_sub hl169 [2, 3, 0, 1] rfl)
            · skip
              refine lv_aload_n hx hb dX7_tick_137 rfl (lv_at hl154 2 rfl) ?_
              refine lv_aload_n hx hb dX7_tick_138 rfl (lv_at hl154 3 rfl) ?_
              refine lv_iload_n hx hb dX7_tick_139 rfl (lv_at hl154 1 rfl) ?_
              refine k_callv (kRunV (As := [.ref h1, .int 0]) (rest := []) kx (c_X7_sendOn_0 l G F5 sd h0 q1 q2 q3 q4 q5 q6 q7 q8 q9 q10 q11 (upd F14 9 r60) h1) q_811 q_808 q_36 q_810 q_20 nX7_sendOn ⟨Nat.le_of_ble_eq_true rfl, Nat.le_of_ble_eq_true rfl⟩ hK hP167 hD168 (kCtx_all _) 0 7 rfl rfl rfl rfl hl154.1 (Nat.le_of_ble_eq_true rfl) dX7_tick_140 ⟨Nat.zero_le _, Nat.zero_le _⟩) hP167 hD168 hS166 hA (kCtx_all _) (fun _ => rfl) (fun u H170 locs170 hw hP170 hD170 hS170 => ?_)
              obtain ⟨F69, F70⟩ := u
              obtain ⟨hF69, hF70⟩ := hw
              have hF69 : s_X7_sendOn_0_Z F5 = F69 := (show F69 = s_X7_sendOn_0_Z F5 from hF69).symm
              have hF70 : s_X7_sendOn_0_f F5 (upd F14 9 r60) = F70 := (show F70 = s_X7_sendOn_0_f F5 (upd F14 9 r60) from hF70).symm
              have hP171 : va_P G.1 vwCl ([(h0, .inr (7, cM F69 q1 q2 q3 q4 q5 q6 q7 q8 q9 q10 q11 sd)), (h1, .inl (G.2.1, 55, .inl F70))]) H170 := hP170
              have hD172 : va_D A ([(h0, .inr (7, cM F69 q1 q2 q3 q4 q5 q6 q7 q8 q9 q10 q11 sd)), (h1, .inl (G.2.1, 55, .inl F70))]) := hD170
              refine lv_iinc (v := 1) (lv' := [(2, .int 1), (3, .int 0), (0, .ref h0), (1, .ref h1)]) hx hb dX7_tick_143 hl154 (k := 1) rfl (by decide +kernel) (by decide) rfl (fun ls173 hl173 => ?_)
              refine lv_goto (tgt := 82) hx hb dX7_tick_146 (by decide) ?_
              have e0 : t_X7_tick_3_Z F5 F14 = F69 := by rw [t_X7_tick_3_Z]; (try rw [hr60]); (try rw [hr66]); (try rw [hF69]); (try rw [hF70]); rw [if_neg c61, if_pos c65, if_pos c67]
              have e1 : t_X7_tick_3_f F5 F14 = F70 := by rw [t_X7_tick_3_f]; (try rw [hr60]); (try rw [hr66]); (try rw [hF69]); (try rw [hF70]); rw [if_neg c61, if_pos c65, if_pos c67]
              exact cut3 F69 F70 _ _ _ e0 e1 hP171 hD172 hS170 (lv_sub hl173 [2, 3, 0, 1] rfl)
      · skip
        refine lv_aload_n hx hb dX7_tick_48 rfl (lv_at hl12 2 rfl) ?_
        refine lv_iload_n hx hb dX7_tick_49 rfl (lv_at hl12 0 rfl) ?_
        refine lv_bipush (v := 8) hx hb dX7_tick_50 (by decide) ?_
        refine lv_iadd hx hb dX7_tick_52 ?_
        refine k_top (y := 24) (by decide +kernel) ?_
        refine k_iald (v := (F14 24)) kx hK hP93 1 rfl 24 rfl (by decide) (by decide) rfl dX7_tick_53 ?_
        refine lv_aload_n hx hb dX7_tick_54 rfl (lv_at hl12 2 rfl) ?_
        refine lv_iload_n hx hb dX7_tick_55 rfl (lv_at hl12 0 rfl) ?_
        refine k_calli (kRunS (As := [.ref h1, .int 16]) (rest := [.int (F14 24)]) kx (c_X7_limitOn_16 l G F14 h1) q_801 q_799 q_36 q_800 nX7_limitOn ⟨Nat.le_of_ble_eq_true rfl, Nat.le_of_ble_eq_true rfl⟩ hK hP93 hD94 (kCtx_places _ _ [1] rfl rfl) rfl hl12.1 (Nat.le_of_ble_eq_true rfl) dX7_tick_56 ⟨Nat.zero_le _, Nat.zero_le _⟩) hP93 hD94 hS92 hA (kCtx_places _ _ [1] rfl rfl) (fun _ => rfl) (fun r97 _ H174 locs174 hw hP174 hD174 hS174 => ?_)
        have hr97 : r_X7_limitOn_16 F14 = r97 := (show r97 = r_X7_limitOn_16 F14 from hw).symm
        have hP175 : va_P G.1 vwCl ([(h0, .inr (7, cM F5 q1 q2 q3 q4 q5 q6 q7 q8 q9 q10 q11 sd)), (h1, .inl (G.2.1, 55, .inl F14))]) H174 := hP174
        have hD176 : va_D A ([(h0, .inr (7, cM F5 q1 q2 q3 q4 q5 q6 q7 q8 q9 q10 q11 sd)), (h1, .inl (G.2.1, 55, .inl F14))]) := hD174
        refine lv_icmp_lt (x := F14 24) (y := r97) (tgt := 74) hx hb dX7_tick_59 (by decide) (fun (c98 : F14 24 < r97) => ?_) (fun (c98 : ¬ (F14 24 < r97)) => ?_)
        · skip
          refine lv_iinc (v := 2) (lv' := [(2, .int 2), (3, .int 16), (0, .ref h0), (1, .ref h1)]) hx hb dX7_tick_74 hl12 (k := 3) rfl (by decide +kernel) (by decide) rfl (fun ls177 hl177 => ?_)
          refine lv_goto (tgt := 22) hx hb dX7_tick_77 (by decide) ?_
          refine lv_iload_n hx hb dX7_tick_22 rfl (lv_at hl177 0 rfl) ?_
          refine lv_iconst (v := 2) hx hb dX7_tick_23 (by decide) ?_
          refine lv_icmp_ge (x := 2) (y := 2) (tgt := 80) hx hb dX7_tick_24 (by decide) (fun (c99 : 2 ≤ 2) => ?_) (fun (c99 : ¬ (2 ≤ 2)) => absurd (by decide) c99)
          refine lv_iconst (v := 0) hx hb dX7_tick_80 (by decide) ?_
          refine lv_istore_n (lv' := [(2, .int 0), (3, .int 16), (0, .ref h0), (1, .ref h1)]) hx hb dX7_tick_81 rfl hl177 (by decide) rfl (fun ls178 hl178 => ?_)
          have cut4 : ∀ (F112 : Nat → Int32) (F113 : Nat → Int32) (H : Heap) (locs : List Loc) (ls : Array Slot), (hF112 : t_X7_tick_4_Z F5 F14 = F112) → (hF113 : t_X7_tick_4_f F5 F14 = F113) → va_P G.1 vwCl ([(h0, .inr (7, cM F112 q1 q2 q3 q4 q5 q6 q7 q8 q9 q10 q11 sd)), (h1, .inl (G.2.1, 55, .inl F113))]) H → va_D A ([(h0, .inr (7, cM F112 q1 q2 q3 q4 q5 q6 q7 q8 q9 q10 q11 sd)), (h1, .inl (G.2.1, 55, .inl F113))]) → va_S A s.heap H locs → lv_has ls 4 [(0, .ref h0), (1, .ref h1), (2, .int 1), (3, .int 0)] → W p l e (kr 4) s m args below meth c H locs 0 0 (MQ below (qV G (fun u : ((Nat → Int32) × (Nat → Int32)) => u.1 = s_X7_tick_Z Z f ∧ u.2 = s_X7_tick_f Z f) (fun u => [(h0, .inr (7, cM u.1 q1 q2 q3 q4 q5 q6 q7 q8 q9 q10 q11 sd)), (h1, .inl (G.2.1, 55, .inl u.2))]) A) args s 0 0 A) (F0 m 82 ls []) := by
            intro F112 F113 H179 locs179 ls179 hF112 hF113 hP179 hD179 hS179 hl179
            refine lv_iload_n hx hb dX7_tick_82 rfl (lv_at hl179 2 rfl) ?_
            refine lv_iconst (v := 2) hx hb dX7_tick_83 (by decide) ?_
            refine lv_icmp_ge (x := 1) (y := 2) (tgt := 149) hx hb dX7_tick_84 (by decide) (fun (c114 : 2 ≤ 1) => absurd c114 (by decide)) (fun (c114 : ¬ (2 ≤ 1)) => ?_)
            refine lv_bipush (v := 16) hx hb dX7_tick_87 (by decide) ?_
            refine lv_iload_n hx hb dX7_tick_89 rfl (lv_at hl179 2 rfl) ?_
            refine lv_imul hx hb dX7_tick_90 ?_
            refine k_top (y := 16) (by decide +kernel) ?_
            refine lv_istore_n (lv' := [(3, .int 16), (0, .ref h0), (1, .ref h1), (2, .int 1)]) hx hb dX7_tick_91 rfl hl179 (by decide) rfl (fun ls180 hl180 => ?_)
            refine lv_aload_n hx hb dX7_tick_92 rfl (lv_at hl180 2 rfl) ?_
            refine lv_iload_n hx hb dX7_tick_93 rfl (lv_at hl180 0 rfl) ?_
            refine lv_bipush (v := 9) hx hb dX7_tick_94 (by decide) ?_
            refine lv_iadd hx hb dX7_tick_96 ?_
            refine k_top (y := 25) (by decide +kernel) ?_
            refine lv_aload_n hx hb dX7_tick_97 rfl (lv_at hl180 2 rfl) ?_
            refine lv_iload_n hx hb dX7_tick_98 rfl (lv_at hl180 0 rfl) ?_
            refine lv_bipush (v := 9) hx hb dX7_tick_99 (by decide) ?_
            refine lv_iadd hx hb dX7_tick_101 ?_
            refine k_top (y := 25) (by decide +kernel) ?_
            refine k_iald (v := (F113 25)) kx hK hP179 1 rfl 25 rfl (by decide) (by decide) rfl dX7_tick_102 ?_
            refine lv_iconst (v := 1) hx hb dX7_tick_103 (by decide) ?_
            refine lv_isub hx hb dX7_tick_104 ?_
            refine lv_iconst (v := 0) hx hb dX7_tick_105 (by decide) ?_
            refine k_calli (kRunS (As := [.int ((F113 25) - 1), .int 0]) (rest := [.int 25, .ref h1]) kx (c_X7_max l G ((F113 25) - 1) 0) q_804 q_802 q_36 q_803 nX7_max ⟨Nat.le_of_ble_eq_true rfl, Nat.le_of_ble_eq_true rfl⟩ hK hP179 hD179 (kCtx_nil _) rfl hl180.1 (Nat.le_of_ble_eq_true rfl) dX7_tick_106 ⟨Nat.zero_le _, Nat.zero_le _⟩) hP179 hD179 hS179 hA (kCtx_nil _) (fun _ => rfl) (fun r115 _ H181 locs181 hw hP181 hD181 hS181 => ?_)
            have hr115 : r_X7_max ((F113 25) - 1) 0 = r115 := (show r115 = r_X7_max ((F113 25) - 1) 0 from hw).symm
            have hP182 : va_P G.1 vwCl ([(h0, .inr (7, cM F112 q1 q2 q3 q4 q5 q6 q7 q8 q9 q10 q11 sd)), (h1, .inl (G.2.1, 55, .inl F113))]) H181 := hP181
            have hD183 : va_D A ([(h0, .inr (7, cM F112 q1 q2 q3 q4 q5 q6 q7 q8 q9 q10 q11 sd)), (h1, .inl (G.2.1, 55, .inl F113))]) := hD181
            refine k_iast kx hK hP182 hD183 hS181 1 rfl 25 rfl (by decide) (by decide) dX7_tick_109 (fun H184 locs184 hP184 hD184 hS184 => ?_)
            have hP185 : va_P G.1 vwCl ([(h0, .inr (7, cM F112 q1 q2 q3 q4 q5 q6 q7 q8 q9 q10 q11 sd)), (h1, .inl (G.2.1, 55, .inl (upd F113 25 r115)))]) H184 := hP184
            have hD186 : va_D A ([(h0, .inr (7, cM F112 q1 q2 q3 q4 q5 q6 q7 q8 q9 q10 q11 sd)), (h1, .inl (G.2.1, 55, .inl (upd F113 25 r115)))]) := hD184
            refine lv_aload_n hx hb dX7_tick_110 rfl (lv_at hl180 2 rfl) ?_
            refine lv_iload_n hx hb dX7_tick_111 rfl (lv_at hl180 0 rfl) ?_
            refine lv_bipush (v := 10) hx hb dX7_tick_112 (by decide) ?_
            refine lv_iadd hx hb dX7_tick_114 ?_
            refine k_top (y := 26) (by decide +kernel) ?_
            refine k_iald (v := (F113 26)) kx hK hP185 1 rfl 26 rfl (by decide) (by decide) rfl dX7_tick_115 ?_
            refine lv_iconst (v := 1) hx hb dX7_tick_116 (by decide) ?_
            refine lv_icmp_eq (x := F113 26) (y := 1) (tgt := 137) hx hb dX7_tick_117 (by decide) (fun (c116 : F113 26 = 1) => ?_) (fun (c116 : ¬ (F113 26 = 1)) => ?_)
            · skip
              refine lv_aload_n hx hb dX7_tick_137 rfl (lv_at hl180 1 rfl) ?_
              refine lv_aload_n hx hb dX7_tick_138 rfl (lv_at hl180 2 rfl) ?_
              refine lv_iload_n hx hb dX7_tick_139 rfl (lv_at hl180 3 rfl) ?_
              refine k_callv (kRunV (As := [.ref h1, .int 1]) (rest := []) kx (c_X7_sendOn_1 l G F112 sd h0 q1 q2 q3 q4 q5 q6 q7 q8 q9 q10 q11 (upd F113 25 r115) h1) q_811 q_808 q_36 q_810 q_20 nX7_sendOn ⟨Nat.le_of_ble_eq_true rfl, Nat.le_of_ble_eq_true rfl⟩ hK hP185 hD186 (kCtx_all _) 0 7 rfl rfl rfl rfl hl180.1 (Nat.le_of_ble_eq_true rfl) dX7_tick_140 ⟨Nat.zero_le _, Nat.zero_le _⟩) hP185 hD186 hS184 hA (kCtx_all _) (fun _ => rfl) (fun u H187 locs187 hw hP187 hD187 hS187 => ?_)
              obtain ⟨F118, F119⟩ := u
              obtain ⟨hF118, hF119⟩ := hw
              have hF118 : s_X7_sendOn_1_Z F112 = F118 := (show F118 = s_X7_sendOn_1_Z F112 from hF118).symm
              have hF119 : s_X7_sendOn_1_f F112 (upd F113 25 r115) = F119 := (show F119 = s_X7_sendOn_1_f F112 (upd F113 25 r115) from hF119).symm
              have hP188 : va_P G.1 vwCl ([(h0, .inr (7, cM F118 q1 q2 q3 q4 q5 q6 q7 q8 q9 q10 q11 sd)), (h1, .inl (G.2.1, 55, .inl F119))]) H187 := hP187
              have hD189 : va_D A ([(h0, .inr (7, cM F118 q1 q2 q3 q4 q5 q6 q7 q8 q9 q10 q11 sd)), (h1, .inl (G.2.1, 55, .inl F119))]) := hD187
              refine lv_iinc (v := 2) (lv' := [(2, .int 2), (3, .int 16), (0, .ref h0), (1, .ref h1)]) hx hb dX7_tick_143 hl180 (k := 3) rfl (by decide +kernel) (by decide) rfl (fun ls190 hl190 => ?_)
              refine lv_goto (tgt := 82) hx hb dX7_tick_146 (by decide) ?_
              refine lv_iload_n hx hb dX7_tick_82 rfl (lv_at hl190 0 rfl) ?_
              refine lv_iconst (v := 2) hx hb dX7_tick_83 (by decide) ?_
              refine lv_icmp_ge (x := 2) (y := 2) (tgt := 149) hx hb dX7_tick_84 (by decide) (fun (c120 : 2 ≤ 2) => ?_) (fun (c120 : ¬ (2 ≤ 2)) => absurd (by decide) c120)
              refine lv_aload_n hx hb dX7_tick_149 rfl (lv_at hl190 3 rfl) ?_
              refine lv_bipush (v := 54) hx hb dX7_tick_150 (by decide) ?_
              refine lv_dup2_11 hx hb dX7_tick_152 rfl rfl ?_
              refine k_iald (v := (F119 54)) kx hK hP188 1 rfl 54 rfl (by decide) (by decide) rfl dX7_tick_153 ?_
              refine lv_aload_n hx hb dX7_tick_154 rfl (lv_at hl190 3 rfl) ?_
              refine lv_iconst (v := 5) hx hb dX7_tick_155 (by decide) ?_
              refine k_iald (v := (F119 5)) kx hK hP188 1 rfl 5 rfl (by decide) (by decide) rfl dX7_tick_156 ?_
              refine lv_iconst (v := 2) hx hb dX7_tick_157 (by decide) ?_
              refine lv_icmp_ne (x := F119 5) (y := 2) (tgt := 173) hx hb dX7_tick_158 (by decide) (fun (c121 : ¬ (F119 5 = 2)) => ?_) (fun (c121 : F119 5 = 2) => ?_)
              · skip
                refine lv_iconst (v := 0) hx hb dX7_tick_173 (by decide) ?_
                refine lv_iadd hx hb dX7_tick_174 ?_
                refine k_iast kx hK hP188 hD189 hS187 1 rfl 54 rfl (by decide) (by decide) dX7_tick_175 (fun H191 locs191 hP191 hD191 hS191 => ?_)
                have hP192 : va_P G.1 vwCl ([(h0, .inr (7, cM F118 q1 q2 q3 q4 q5 q6 q7 q8 q9 q10 q11 sd)), (h1, .inl (G.2.1, 55, .inl (upd F119 54 ((F119 54) + 0))))]) H191 := hP191
                have hD193 : va_D A ([(h0, .inr (7, cM F118 q1 q2 q3 q4 q5 q6 q7 q8 q9 q10 q11 sd)), (h1, .inl (G.2.1, 55, .inl (upd F119 54 ((F119 54) + 0))))]) := hD191
                have e0 : s_X7_tick_Z Z f = F118 := by rw [s_X7_tick_Z]; (try rw [hF2]); (try rw [hF3]); (try rw [hF5]); (try rw [hF6]); (try rw [hF14]); (try rw [hr56]); (try rw [hr97]); (try rw [hF112]); (try rw [hF113]); (try rw [hr115]); (try rw [hF118]); (try rw [hF119]); rw [if_neg c16, if_pos c57, if_pos c98, if_pos c116, if_neg c121]
                have e1 : s_X7_tick_f Z f = upd F119 54 ((F119 54) + 0) := by rw [s_X7_tick_f]; (try rw [hF2]); (try rw [hF3]); (try rw [hF5]); (try rw [hF6]); (try rw [hF14]); (try rw [hr56]); (try rw [hr97]); (try rw [hF112]); (try rw [hF113]); (try rw [hr115]); (try rw [hF118]); (try rw [hF119]); rw [if_neg c16, if_pos c57, if_pos c98, if_pos c116, if_neg c121]
                exact k_vret kx hK hP192 hD193 hS191 (u := (F118, upd F119 54 ((F119 54) + 0))) rfl ⟨e0.symm, e1.symm⟩ dX7_tick_176
              · skip
                refine lv_aload_n hx hb dX7_tick_161 rfl (lv_at hl190 3 rfl) ?_
                refine lv_bipush (v := 21) hx hb dX7_tick_162 (by decide) ?_
                refine k_iald (v := (F119 21)) kx hK hP188 1 rfl 21 rfl (by decide) (by decide) rfl dX7_tick_164 ?_
                refine lv_iconst (v := 2) hx hb dX7_tick_165 (by decide) ?_
                refine lv_icmp_ne (x := F119 21) (y := 2) (tgt := 173) hx hb dX7_tick_166 (by decide) (fun (c122 : ¬ (F119 21 = 2)) => ?_) (fun (c122 : F119 21 = 2) => ?_)
                · skip
                  refine lv_iconst (v := 0) hx hb dX7_tick_173 (by decide) ?_
                  refine lv_iadd hx hb dX7_tick_174 ?_
                  refine k_iast kx hK hP188 hD189 hS187 1 rfl 54 rfl (by decide) (by decide) dX7_tick_175 (fun H194 locs194 hP194 hD194 hS194 => ?_)
                  have hP195 : va_P G.1 vwCl ([(h0, .inr (7, cM F118 q1 q2 q3 q4 q5 q6 q7 q8 q9 q10 q11 sd)), (h1, .inl (G.2.1, 55, .inl (upd F119 54 ((F119 54) + 0))))]) H194 := hP194
                  have hD196 : va_D A ([(h0, .inr (7, cM F118 q1 q2 q3 q4 q5 q6 q7 q8 q9 q10 q11 sd)), (h1, .inl (G.2.1, 55, .inl (upd F119 54 ((F119 54) + 0))))]) := hD194
                  have e0 : s_X7_tick_Z Z f = F118 := by rw [s_X7_tick_Z]; (try rw [hF2]); (try rw [hF3]); (try rw [hF5]); (try rw [hF6]); (try rw [hF14]); (try rw [hr56]); (try rw [hr97]); (try rw [hF112]); (try rw [hF113]); (try rw [hr115]); (try rw [hF118]); (try rw [hF119]); rw [if_neg c16, if_pos c57, if_pos c98, if_pos c116, if_pos c121, if_neg c122]
                  have e1 : s_X7_tick_f Z f = upd F119 54 ((F119 54) + 0) := by rw [s_X7_tick_f]; (try rw [hF2]); (try rw [hF3]); (try rw [hF5]); (try rw [hF6]); (try rw [hF14]); (try rw [hr56]); (try rw [hr97]); (try rw [hF112]); (try rw [hF113]); (try rw [hr115]); (try rw [hF118]); (try rw [hF119]); rw [if_neg c16, if_pos c57, if_pos c98, if_pos c116, if_pos c121, if_neg c122]
                  exact k_vret kx hK hP195 hD196 hS194 (u := (F118, upd F119 54 ((F119 54) + 0))) rfl ⟨e0.symm, e1.symm⟩ dX7_tick_176
                · skip
                  refine lv_iconst (v := 1) hx hb dX7_tick_169 (by decide) ?_
                  refine lv_goto (tgt := 174) hx hb dX7_tick_170 (by decide) ?_
                  refine lv_iadd hx hb dX7_tick_174 ?_
                  refine k_iast kx hK hP188 hD189 hS187 1 rfl 54 rfl (by decide) (by decide) dX7_tick_175 (fun H197 locs197 hP197 hD197 hS197 => ?_)
                  have hP198 : va_P G.1 vwCl ([(h0, .inr (7, cM F118 q1 q2 q3 q4 q5 q6 q7 q8 q9 q10 q11 sd)), (h1, .inl (G.2.1, 55, .inl (upd F119 54 ((F119 54) + 1))))]) H197 := hP197
                  have hD199 : va_D A ([(h0, .inr (7, cM F118 q1 q2 q3 q4 q5 q6 q7 q8 q9 q10 q11 sd)), (h1, .inl (G.2.1, 55, .inl (upd F119 54 ((F119 54) + 1))))]) := hD197
                  have e0 : s_X7_tick_Z Z f = F118 := by rw [s_X7_tick_Z]; (try rw [hF2]); (try rw [hF3]); (try rw [hF5]); (try rw [hF6]); (try rw [hF14]); (try rw [hr56]); (try rw [hr97]); (try rw [hF112]); (try rw [hF113]); (try rw [hr115]); (try rw [hF118]); (try rw [hF119]); rw [if_neg c16, if_pos c57, if_pos c98, if_pos c116, if_pos c121, if_pos c122]
                  have e1 : s_X7_tick_f Z f = upd F119 54 ((F119 54) + 1) := by rw [s_X7_tick_f]; (try rw [hF2]); (try rw [hF3]); (try rw [hF5]); (try rw [hF6]); (try rw [hF14]); (try rw [hr56]); (try rw [hr97]); (try rw [hF112]); (try rw [hF113]); (try rw [hr115]); (try rw [hF118]); (try rw [hF119]); rw [if_neg c16, if_pos c57, if_pos c98, if_pos c116, if_pos c121, if_pos c122]
                  exact k_vret kx hK hP198 hD199 hS197 (u := (F118, upd F119 54 ((F119 54) + 1))) rfl ⟨e0.symm, e1.symm⟩ dX7_tick_176
            · skip
              refine lv_aload_n hx hb dX7_tick_120 rfl (lv_at hl180 2 rfl) ?_
              refine lv_iload_n hx hb dX7_tick_121 rfl (lv_at hl180 0 rfl) ?_
              refine lv_bipush (v := 9) hx hb dX7_tick_122 (by decide) ?_
              refine lv_iadd hx hb dX7_tick_124 ?_
              refine k_top (y := 25) (by decide +kernel) ?_
              refine k_iald (v := r115) kx hK hP185 1 rfl 25 rfl (by decide) (by decide) rfl dX7_tick_125 ?_
              refine lv_if_ne (x := r115) (tgt := 143) hx hb dX7_tick_126 (by decide) (fun (c123 : ¬ (r115 = 0)) => ?_) (fun (c123 : r115 = 0) => ?_)
              · skip
                refine lv_iinc (v := 2) (lv' := [(2, .int 2), (3, .int 16), (0, .ref h0), (1, .ref h1)]) hx hb dX7_tick_143 hl180 (k := 3) rfl (by decide +kernel) (by decide) rfl (fun ls200 hl200 => ?_)
                refine lv_goto (tgt := 82) hx hb dX7_tick_146 (by decide) ?_
                refine lv_iload_n hx hb dX7_tick_82 rfl (lv_at hl200 0 rfl) ?_
                refine lv_iconst (v := 2) hx hb dX7_tick_83 (by decide) ?_
                refine lv_icmp_ge (x := 2) (y := 2) (tgt := 149) hx hb dX7_tick_84 (by decide) (fun (c124 : 2 ≤ 2) => ?_) (fun (c124 : ¬ (2 ≤ 2)) => absurd (by decide) c124)
                refine lv_aload_n hx hb dX7_tick_149 rfl (lv_at hl200 3 rfl) ?_
                refine lv_bipush (v := 54) hx hb dX7_tick_150 (by decide) ?_
                refine lv_dup2_11 hx hb dX7_tick_152 rfl rfl ?_
                refine k_iald (v := (F113 54)) kx hK hP185 1 rfl 54 rfl (by decide) (by decide) rfl dX7_tick_153 ?_
                refine lv_aload_n hx hb dX7_tick_154 rfl (lv_at hl200 3 rfl) ?_
                refine lv_iconst (v := 5) hx hb dX7_tick_155 (by decide) ?_
                refine k_iald (v := (F113 5)) kx hK hP185 1 rfl 5 rfl (by decide) (by decide) rfl dX7_tick_156 ?_
                refine lv_iconst (v := 2) hx hb dX7_tick_157 (by decide) ?_
                refine lv_icmp_ne (x := F113 5) (y := 2) (tgt := 173) hx hb dX7_tick_158 (by decide) (fun (c125 : ¬ (F113 5 = 2)) => ?_) (fun (c125 : F113 5 = 2) => ?_)
                · skip
                  refine lv_iconst (v := 0) hx hb dX7_tick_173 (by decide) ?_
                  refine lv_iadd hx hb dX7_tick_174 ?_
                  refine k_iast kx hK hP185 hD186 hS184 1 rfl 54 rfl (by decide) (by decide) dX7_tick_175 (fun H201 locs201 hP201 hD201 hS201 => ?_)
                  have hP202 : va_P G.1 vwCl ([(h0, .inr (7, cM F112 q1 q2 q3 q4 q5 q6 q7 q8 q9 q10 q11 sd)), (h1, .inl (G.2.1, 55, .inl (upd (upd F113 25 r115) 54 ((F113 54) + 0))))]) H201 := hP201
                  have hD203 : va_D A ([(h0, .inr (7, cM F112 q1 q2 q3 q4 q5 q6 q7 q8 q9 q10 q11 sd)), (h1, .inl (G.2.1, 55, .inl (upd (upd F113 25 r115) 54 ((F113 54) + 0))))]) := hD201
                  have e0 : s_X7_tick_Z Z f = F112 := by rw [s_X7_tick_Z]; (try rw [hF2]); (try rw [hF3]); (try rw [hF5]); (try rw [hF6]); (try rw [hF14]); (try rw [hr56]); (try rw [hr97]); (try rw [hF112]); (try rw [hF113]); (try rw [hr115]); rw [if_neg c16, if_pos c57, if_pos c98, if_neg c116, if_neg c123, if_neg c125]
                  have e1 : s_X7_tick_f Z f = upd (upd F113 25 r115) 54 ((F113 54) + 0) := by rw [s_X7_tick_f]; (try rw [hF2]); (try rw [hF3]); (try rw [hF5]); (try rw [hF6]); (try rw [hF14]); (try rw [hr56]); (try rw [hr97]); (try rw [hF112]); (try rw [hF113]); (try rw [hr115]); rw [if_neg c16, if_pos c57, if_pos c98, if_neg c116, if_neg c123, if_neg c125]
                  exact k_vret kx hK hP202 hD203 hS201 (u := (F112, upd (upd F113 25 r115) 54 ((F113 54) + 0))) rfl ⟨e0.symm, e1.symm⟩ dX7_tick_176
                · skip
                  refine lv_aload_n hx hb dX7_tick_161 rfl (lv_at hl200 3 rfl) ?_
                  refine lv_bipush (v := 21) hx hb dX7_tick_162 (by decide) ?_
                  refine k_iald (v := (F113 21)) kx hK hP185 1 rfl 21 rfl (by decide) (by decide) rfl dX7_tick_164 ?_
                  refine lv_iconst (v := 2) hx hb dX7_tick_165 (by decide) ?_
                  refine lv_icmp_ne (x := F113 21) (y := 2) (tgt := 173) hx hb dX7_tick_166 (by decide) (fun (c126 : ¬ (F113 21 = 2)) => ?_) (fun (c126 : F113 21 = 2) => ?_)
                  · skip
                    refine lv_iconst (v := 0) hx hb dX7_tick_173 (by decide) ?_
                    refine lv_iadd hx hb dX7_tick_174 ?_
                    refine k_iast kx hK hP185 hD186 hS184 1 rfl 54 rfl (by decide) (by decide) dX7_tick_175 (fun H204 locs204 hP204 hD204 hS204 => ?_)
                    have hP205 : va_P G.1 vwCl ([(h0, .inr (7, cM F112 q1 q2 q3 q4 q5 q6 q7 q8 q9 q10 q11 sd)), (h1, .inl (G.2.1, 55, .inl (upd (upd F113 25 r115) 54 ((F113 54) + 0))))]) H204 := hP204
                    have hD206 : va_D A ([(h0, .inr (7, cM F112 q1 q2 q3 q4 q5 q6 q7 q8 q9 q10 q11 sd)), (h1, .inl (G.2.1, 55, .inl (upd (upd F113 25 r115) 54 ((F113 54) + 0))))]) := hD204
                    have e0 : s_X7_tick_Z Z f = F112 := by rw [s_X7_tick_Z]; (try rw [hF2]); (try rw [hF3]); (try rw [hF5]); (try rw [hF6]); (try rw [hF14]); (try rw [hr56]); (try rw [hr97]); (try rw [hF112]); (try rw [hF113]); (try rw [hr115]); rw [if_neg c16, if_pos c57, if_pos c98, if_neg c116, if_neg c123, if_pos c125, if_neg c126]
                    have e1 : s_X7_tick_f Z f = upd (upd F113 25 r115) 54 ((F113 54) + 0) := by rw [s_X7_tick_f]; (try rw [hF2]); (try rw [hF3]); (try rw [hF5]); (try rw [hF6]); (try rw [hF14]); (try rw [hr56]); (try rw [hr97]); (try rw [hF112]); (try rw [hF113]); (try rw [hr115]); rw [if_neg c16, if_pos c57, if_pos c98, if_neg c116, if_neg c123, if_pos c125, if_neg c126]
                    exact k_vret kx hK hP205 hD206 hS204 (u := (F112, upd (upd F113 25 r115) 54 ((F113 54) + 0))) rfl ⟨e0.symm, e1.symm⟩ dX7_tick_176
                  · skip
                    refine lv_iconst (v := 1) hx hb dX7_tick_169 (by decide) ?_
                    refine lv_goto (tgt := 174) hx hb dX7_tick_170 (by decide) ?_
                    refine lv_iadd hx hb dX7_tick_174 ?_
                    refine k_iast kx hK hP185 hD186 hS184 1 rfl 54 rfl (by decide) (by decide) dX7_tick_175 (fun H207 locs207 hP207 hD207 hS207 => ?_)
                    have hP208 : va_P G.1 vwCl ([(h0, .inr (7, cM F112 q1 q2 q3 q4 q5 q6 q7 q8 q9 q10 q11 sd)), (h1, .inl (G.2.1, 55, .inl (upd (upd F113 25 r115) 54 ((F113 54) + 1))))]) H207 := hP207
                    have hD209 : va_D A ([(h0, .inr (7, cM F112 q1 q2 q3 q4 q5 q6 q7 q8 q9 q10 q11 sd)), (h1, .inl (G.2.1, 55, .inl (upd (upd F113 25 r115) 54 ((F113 54) + 1))))]) := hD207
                    have e0 : s_X7_tick_Z Z f = F112 := by rw [s_X7_tick_Z]; (try rw [hF2]); (try rw [hF3]); (try rw [hF5]); (try rw [hF6]); (try rw [hF14]); (try rw [hr56]); (try rw [hr97]); (try rw [hF112]); (try rw [hF113]); (try rw [hr115]); rw [if_neg c16, if_pos c57, if_pos c98, if_neg c116, if_neg c123, if_pos c125, if_pos c126]
                    have e1 : s_X7_tick_f Z f = upd (upd F113 25 r115) 54 ((F113 54) + 1) := by rw [s_X7_tick_f]; (try rw [hF2]); (try rw [hF3]); (try rw [hF5]); (try rw [hF6]); (try rw [hF14]); (try rw [hr56]); (try rw [hr97]); (try rw [hF112]); (try rw [hF113]); (try rw [hr115]); rw [if_neg c16, if_pos c57, if_pos c98, if_neg c116, if_neg c123, if_pos c125, if_pos c126]
                    exact k_vret kx hK hP208 hD209 hS207 (u := (F112, upd (upd F113 25 r115) 54 ((F113 54) + 1))) rfl ⟨e0.symm, e1.symm⟩ dX7_tick_176
              · skip
                refine lv_aload_n hx hb dX7_tick_129 rfl (lv_at hl180 2 rfl) ?_
                refine lv_iload_n hx hb dX7_tick_130 rfl (lv_at hl180 0 rfl) ?_
                refine k_calli (kRunS (As := [.ref h1, .int 16]) (rest := []) kx (c_X7_isStill_16 l G (upd F113 25 r115) h1) q_807 q_805 q_36 q_806 nX7_isStill ⟨Nat.le_of_ble_eq_true rfl, Nat.le_of_ble_eq_true rfl⟩ hK hP185 hD186 (kCtx_places _ _ [1] rfl rfl) rfl hl180.1 (Nat.le_of_ble_eq_true rfl) dX7_tick_131 ⟨Nat.zero_le _, Nat.zero_le _⟩) hP185 hD186 hS184 hA (kCtx_places _ _ [1] rfl rfl) (fun _ => rfl) (fun r127 _ H210 locs210 hw hP210 hD210 hS210 => ?_)
                have hr127 : r_X7_isStill_16 (upd F113 25 r115) = r127 := (show r127 = r_X7_isStill_16 (upd F113 25 r115) from hw).symm
                have hP211 : va_P G.1 vwCl ([(h0, .inr (7, cM F112 q1 q2 q3 q4 q5 q6 q7 q8 q9 q10 q11 sd)), (h1, .inl (G.2.1, 55, .inl (upd F113 25 r115)))]) H210 := hP210
                have hD212 : va_D A ([(h0, .inr (7, cM F112 q1 q2 q3 q4 q5 q6 q7 q8 q9 q10 q11 sd)), (h1, .inl (G.2.1, 55, .inl (upd F113 25 r115)))]) := hD210
                refine lv_if_ne (x := r127) (tgt := 143) hx hb dX7_tick_134 (by decide) (fun (c128 : ¬ (r127 = 0)) => ?_) (fun (c128 : r127 = 0) => ?_)
                · skip
                  refine lv_iinc (v := 2) (lv' := [(2, .int 2), (3, .int 16), (0, .ref h0), (1, .ref h1)]) hx hb dX7_tick_143 hl180 (k := 3) rfl (by decide +kernel) (by decide) rfl (fun ls213 hl213 => ?_)
                  refine lv_goto (tgt := 82) hx hb dX7_tick_146 (by decide) ?_
                  refine lv_iload_n hx hb dX7_tick_82 rfl (lv_at hl213 0 rfl) ?_
                  refine lv_iconst (v := 2) hx hb dX7_tick_83 (by decide) ?_
                  refine lv_icmp_ge (x := 2) (y := 2) (tgt := 149) hx hb dX7_tick_84 (by decide) (fun (c129 : 2 ≤ 2) => ?_) (fun (c129 : ¬ (2 ≤ 2)) => absurd (by decide) c129)
                  refine lv_aload_n hx hb dX7_tick_149 rfl (lv_at hl213 3 rfl) ?_
                  refine lv_bipush (v := 54) hx hb dX7_tick_150 (by decide) ?_
                  refine lv_dup2_11 hx hb dX7_tick_152 rfl rfl ?_
                  refine k_iald (v := (F113 54)) kx hK hP211 1 rfl 54 rfl (by decide) (by decide) rfl dX7_tick_153 ?_
                  refine lv_aload_n hx hb dX7_tick_154 rfl (lv_at hl213 3 rfl) ?_
                  refine lv_iconst (v := 5) hx hb dX7_tick_155 (by decide) ?_
                  refine k_iald (v := (F113 5)) kx hK hP211 1 rfl 5 rfl (by decide) (by decide) rfl dX7_tick_156 ?_
                  refine lv_iconst (v := 2) hx hb dX7_tick_157 (by decide) ?_
                  refine lv_icmp_ne (x := F113 5) (y := 2) (tgt := 173) hx hb dX7_tick_158 (by decide) (fun (c130 : ¬ (F113 5 = 2)) => ?_) (fun (c130 : F113 5 = 2) => ?_)
                  · skip
                    refine lv_iconst (v := 0) hx hb dX7_tick_173 (by decide) ?_
                    refine lv_iadd hx hb dX7_tick_174 ?_
                    refine k_iast kx hK hP211 hD212 hS210 1 rfl 54 rfl (by decide) (by decide) dX7_tick_175 (fun H214 locs214 hP214 hD214 hS214 => ?_)
                    have hP215 : va_P G.1 vwCl ([(h0, .inr (7, cM F112 q1 q2 q3 q4 q5 q6 q7 q8 q9 q10 q11 sd)), (h1, .inl (G.2.1, 55, .inl (upd (upd F113 25 r115) 54 ((F113 54) + 0))))]) H214 := hP214
                    have hD216 : va_D A ([(h0, .inr (7, cM F112 q1 q2 q3 q4 q5 q6 q7 q8 q9 q10 q11 sd)), (h1, .inl (G.2.1, 55, .inl (upd (upd F113 25 r115) 54 ((F113 54) + 0))))]) := hD214
                    have e0 : s_X7_tick_Z Z f = F112 := by rw [s_X7_tick_Z]; (try rw [hF2]); (try rw [hF3]); (try rw [hF5]); (try rw [hF6]); (try rw [hF14]); (try rw [hr56]); (try rw [hr97]); (try rw [hF112]); (try rw [hF113]); (try rw [hr115]); (try rw [hr127]); rw [if_neg c16, if_pos c57, if_pos c98, if_neg c116, if_pos c123, if_neg c128, if_neg c130]
                    have e1 : s_X7_tick_f Z f = upd (upd F113 25 r115) 54 ((F113 54) + 0) := by rw [s_X7_tick_f]; (try rw [hF2]); (try rw [hF3]); (try rw [hF5]); (try rw [hF6]); (try rw [hF14]); (try rw [hr56]); (try rw [hr97]); (try rw [hF112]); (try rw [hF113]); (try rw [hr115]); (try rw [hr127]); rw [if_neg c16, if_pos c57, if_pos c98, if_neg c116, if_pos c123, if_neg c128, if_neg c130]
                    exact k_vret kx hK hP215 hD216 hS214 (u := (F112, upd (upd F113 25 r115) 54 ((F113 54) + 0))) rfl ⟨e0.symm, e1.symm⟩ dX7_tick_176
                  · skip
                    refine lv_aload_n hx hb dX7_tick_161 rfl (lv_at hl213 3 rfl) ?_
                    refine lv_bipush (v := 21) hx hb dX7_tick_162 (by decide) ?_
                    refine k_iald (v := (F113 21)) kx hK hP211 1 rfl 21 rfl (by decide) (by decide) rfl dX7_tick_164 ?_
                    refine lv_iconst (v := 2) hx hb dX7_tick_165 (by decide) ?_
                    refine lv_icmp_ne (x := F113 21) (y := 2) (tgt := 173) hx hb dX7_tick_166 (by decide) (fun (c131 : ¬ (F113 21 = 2)) => ?_) (fun (c131 : F113 21 = 2) => ?_)
                    · skip
                      refine lv_iconst (v := 0) hx hb dX7_tick_173 (by decide) ?_
                      refine lv_iadd hx hb dX7_tick_174 ?_
                      refine k_iast kx hK hP211 hD212 hS210 1 rfl 54 rfl (by decide) (by decide) dX7_tick_175 (fun H217 locs217 hP217 hD217 hS217 => ?_)
                      have hP218 : va_P G.1 vwCl ([(h0, .inr (7, cM F112 q1 q2 q3 q4 q5 q6 q7 q8 q9 q10 q11 sd)), (h1, .inl (G.2.1, 55, .inl (upd (upd F113 25 r115) 54 ((F113 54) + 0))))]) H217 := hP217
                      have hD219 : va_D A ([(h0, .inr (7, cM F112 q1 q2 q3 q4 q5 q6 q7 q8 q9 q10 q11 sd)), (h1, .inl (G.2.1, 55, .inl (upd (upd F113 25 r115) 54 ((F113 54) + 0))))]) := hD217
                      have e0 : s_X7_tick_Z Z f = F112 := by rw [s_X7_tick_Z]; (try rw [hF2]); (try rw [hF3]); (try rw [hF5]); (try rw [hF6]); (try rw [hF14]); (try rw [hr56]); (try rw [hr97]); (try rw [hF112]); (try rw [hF113]); (try rw [hr115]); (try rw [hr127]); rw [if_neg c16, if_pos c57, if_pos c98, if_neg c116, if_pos c123, if_neg c128, if_pos c130, if_neg c131]
                      have e1 : s_X7_tick_f Z f = upd (upd F113 25 r115) 54 ((F113 54) + 0) := by rw [s_X7_tick_f]; (try rw [hF2]); (try rw [hF3]); (try rw [hF5]); (try rw [hF6]); (try rw [hF14]); (try rw [hr56]); (try rw [hr97]); (try rw [hF112]); (try rw [hF113]); (try rw [hr115]); (try rw [hr127]); rw [if_neg c16, if_pos c57, if_pos c98, if_neg c116, if_pos c123, if_neg c128, if_pos c130, if_neg c131]
                      exact k_vret kx hK hP218 hD219 hS217 (u := (F112, upd (upd F113 25 r115) 54 ((F113 54) + 0))) rfl ⟨e0.symm, e1.symm⟩ dX7_tick_176
                    · skip
                      refine lv_iconst (v := 1) hx hb dX7_tick_169 (by decide) ?_
                      refine lv_goto (tgt := 174) hx hb dX7_tick_170 (by decide) ?_
                      refine lv_iadd hx hb dX7_tick_174 ?_
                      refine k_iast kx hK hP211 hD212 hS210 1 rfl 54 rfl (by decide) (by decide) dX7_tick_175 (fun H220 locs220 hP220 hD220 hS220 => ?_)
                      have hP221 : va_P G.1 vwCl ([(h0, .inr (7, cM F112 q1 q2 q3 q4 q5 q6 q7 q8 q9 q10 q11 sd)), (h1, .inl (G.2.1, 55, .inl (upd (upd F113 25 r115) 54 ((F113 54) + 1))))]) H220 := hP220
                      have hD222 : va_D A ([(h0, .inr (7, cM F112 q1 q2 q3 q4 q5 q6 q7 q8 q9 q10 q11 sd)), (h1, .inl (G.2.1, 55, .inl (upd (upd F113 25 r115) 54 ((F113 54) + 1))))]) := hD220
                      have e0 : s_X7_tick_Z Z f = F112 := by rw [s_X7_tick_Z]; (try rw [hF2]); (try rw [hF3]); (try rw [hF5]); (try rw [hF6]); (try rw [hF14]); (try rw [hr56]); (try rw [hr97]); (try rw [hF112]); (try rw [hF113]); (try rw [hr115]); (try rw [hr127]); rw [if_neg c16, if_pos c57, if_pos c98, if_neg c116, if_pos c123, if_neg c128, if_pos c130, if_pos c131]
                      have e1 : s_X7_tick_f Z f = upd (upd F113 25 r115) 54 ((F113 54) + 1) := by rw [s_X7_tick_f]; (try rw [hF2]); (try rw [hF3]); (try rw [hF5]); (try rw [hF6]); (try rw [hF14]); (try rw [hr56]); (try rw [hr97]); (try rw [hF112]); (try rw [hF113]); (try rw [hr115]); (try rw [hr127]); rw [if_neg c16, if_pos c57, if_pos c98, if_neg c116, if_pos c123, if_neg c128, if_pos c130, if_pos c131]
                      exact k_vret kx hK hP221 hD222 hS220 (u := (F112, upd (upd F113 25 r115) 54 ((F113 54) + 1))) rfl ⟨e0.symm, e1.symm⟩ dX7_tick_176
                · skip
                  refine lv_aload_n hx hb dX7_tick_137 rfl (lv_at hl180 1 rfl) ?_
                  refine lv_aload_n hx hb dX7_tick_138 rfl (lv_at hl180 2 rfl) ?_
                  refine lv_iload_n hx hb dX7_tick_139 rfl (lv_at hl180 3 rfl) ?_
                  refine k_callv (kRunV (As := [.ref h1, .int 1]) (rest := []) kx (c_X7_sendOn_1 l G F112 sd h0 q1 q2 q3 q4 q5 q6 q7 q8 q9 q10 q11 (upd F113 25 r115) h1) q_811 q_808 q_36 q_810 q_20 nX7_sendOn ⟨Nat.le_of_ble_eq_true rfl, Nat.le_of_ble_eq_true rfl⟩ hK hP211 hD212 (kCtx_all _) 0 7 rfl rfl rfl rfl hl180.1 (Nat.le_of_ble_eq_true rfl) dX7_tick_140 ⟨Nat.zero_le _, Nat.zero_le _⟩) hP211 hD212 hS210 hA (kCtx_all _) (fun _ => rfl) (fun u H223 locs223 hw hP223 hD223 hS223 => ?_)
                  obtain ⟨F133, F134⟩ := u
                  obtain ⟨hF133, hF134⟩ := hw
                  have hF133 : s_X7_sendOn_1_Z F112 = F133 := (show F133 = s_X7_sendOn_1_Z F112 from hF133).symm
                  have hF134 : s_X7_sendOn_1_f F112 (upd F113 25 r115) = F134 := (show F134 = s_X7_sendOn_1_f F112 (upd F113 25 r115) from hF134).symm
                  have hP224 : va_P G.1 vwCl ([(h0, .inr (7, cM F133 q1 q2 q3 q4 q5 q6 q7 q8 q9 q10 q11 sd)), (h1, .inl (G.2.1, 55, .inl F134))]) H223 := hP223
                  have hD225 : va_D A ([(h0, .inr (7, cM F133 q1 q2 q3 q4 q5 q6 q7 q8 q9 q10 q11 sd)), (h1, .inl (G.2.1, 55, .inl F134))]) := hD223
                  refine lv_iinc (v := 2) (lv' := [(2, .int 2), (3, .int 16), (0, .ref h0), (1, .ref h1)]) hx hb dX7_tick_143 hl180 (k := 3) rfl (by decide +kernel) (by decide) rfl (fun ls226 hl226 => ?_)
                  refine lv_goto (tgt := 82) hx hb dX7_tick_146 (by decide) ?_
                  refine lv_iload_n hx hb dX7_tick_82 rfl (lv_at hl226 0 rfl) ?_
                  refine lv_iconst (v := 2) hx hb dX7_tick_83 (by decide) ?_
                  refine lv_icmp_ge (x := 2) (y := 2) (tgt := 149) hx hb dX7_tick_84 (by decide) (fun (c135 : 2 ≤ 2) => ?_) (fun (c135 : ¬ (2 ≤ 2)) => absurd (by decide) c135)
                  refine lv_aload_n hx hb dX7_tick_149 rfl (lv_at hl226 3 rfl) ?_
                  refine lv_bipush (v := 54) hx hb dX7_tick_150 (by decide) ?_
                  refine lv_dup2_11 hx hb dX7_tick_152 rfl rfl ?_
                  refine k_iald (v := (F134 54)) kx hK hP224 1 rfl 54 rfl (by decide) (by decide) rfl dX7_tick_153 ?_
                  refine lv_aload_n hx hb dX7_tick_154 rfl (lv_at hl226 3 rfl) ?_
                  refine lv_iconst (v := 5) hx hb dX7_tick_155 (by decide) ?_
                  refine k_iald (v := (F134 5)) kx hK hP224 1 rfl 5 rfl (by decide) (by decide) rfl dX7_tick_156 ?_
                  refine lv_iconst (v := 2) hx hb dX7_tick_157 (by decide) ?_
                  refine lv_icmp_ne (x := F134 5) (y := 2) (tgt := 173) hx hb dX7_tick_158 (by decide) (fun (c136 : ¬ (F134 5 = 2)) => ?_) (fun (c136 : F134 5 = 2) => ?_)
                  · skip
                    refine lv_iconst (v := 0) hx hb dX7_tick_173 (by decide) ?_
                    refine lv_iadd hx hb dX7_tick_174 ?_
                    refine k_iast kx hK hP224 hD225 hS223 1 rfl 54 rfl (by decide) (by decide) dX7_tick_175 (fun H227 locs227 hP227 hD227 hS227 => ?_)
                    have hP228 : va_P G.1 vwCl ([(h0, .inr (7, cM F133 q1 q2 q3 q4 q5 q6 q7 q8 q9 q10 q11 sd)), (h1, .inl (G.2.1, 55, .inl (upd F134 54 ((F134 54) + 0))))]) H227 := hP227
                    have hD229 : va_D A ([(h0, .inr (7, cM F133 q1 q2 q3 q4 q5 q6 q7 q8 q9 q10 q11 sd)), (h1, .inl (G.2.1, 55, .inl (upd F134 54 ((F134 54) + 0))))]) := hD227
                    have e0 : s_X7_tick_Z Z f = F133 := by rw [s_X7_tick_Z]; (try rw [hF2]); (try rw [hF3]); (try rw [hF5]); (try rw [hF6]); (try rw [hF14]); (try rw [hr56]); (try rw [hr97]); (try rw [hF112]); (try rw [hF113]); (try rw [hr115]); (try rw [hr127]); (try rw [hF133]); (try rw [hF134]); rw [if_neg c16, if_pos c57, if_pos c98, if_neg c116, if_pos c123, if_pos c128, if_neg c136]
                    have e1 : s_X7_tick_f Z f = upd F134 54 ((F134 54) + 0) := by rw [s_X7_tick_f]; (try rw [hF2]); (try rw [hF3]); (try rw [hF5]); (try rw [hF6]); (try rw [hF14]); (try rw [hr56]); (try rw [hr97]); (try rw [hF112]); (try rw [hF113]); (try rw [hr115]); (try rw [hr127]); (try rw [hF133]); (try rw [hF134]); rw [if_neg c16, if_pos c57, if_pos c98, if_neg c116, if_pos c123, if_pos c128, if_neg c136]
                    exact k_vret kx hK hP228 hD229 hS227 (u := (F133, upd F134 54 ((F134 54) + 0))) rfl ⟨e0.symm, e1.symm⟩ dX7_tick_176
                  · skip
                    refine lv_aload_n hx hb dX7_tick_161 rfl (lv_at hl226 3 rfl) ?_
                    refine lv_bipush (v := 21) hx hb dX7_tick_162 (by decide) ?_
                    refine k_iald (v := (F134 21)) kx hK hP224 1 rfl 21 rfl (by decide) (by decide) rfl dX7_tick_164 ?_
                    refine lv_iconst (v := 2) hx hb dX7_tick_165 (by decide) ?_
                    refine lv_icmp_ne (x := F134 21) (y := 2) (tgt := 173) hx hb dX7_tick_166 (by decide) (fun (c137 : ¬ (F134 21 = 2)) => ?_) (fun (c137 : F134 21 = 2) => ?_)
                    · skip
                      refine lv_iconst (v := 0) hx hb dX7_tick_173 (by decide) ?_
                      refine lv_iadd hx hb dX7_tick_174 ?_
                      refine k_iast kx hK hP224 hD225 hS223 1 rfl 54 rfl (by decide) (by decide) dX7_tick_175 (fun H230 locs230 hP230 hD230 hS230 => ?_)
                      have hP231 : va_P G.1 vwCl ([(h0, .inr (7, cM F133 q1 q2 q3 q4 q5 q6 q7 q8 q9 q10 q11 sd)), (h1, .inl (G.2.1, 55, .inl (upd F134 54 ((F134 54) + 0))))]) H230 := hP230
                      have hD232 : va_D A ([(h0, .inr (7, cM F133 q1 q2 q3 q4 q5 q6 q7 q8 q9 q10 q11 sd)), (h1, .inl (G.2.1, 55, .inl (upd F134 54 ((F134 54) + 0))))]) := hD230
                      have e0 : s_X7_tick_Z Z f = F133 := by rw [s_X7_tick_Z]; (try rw [hF2]); (try rw [hF3]); (try rw [hF5]); (try rw [hF6]); (try rw [hF14]); (try rw [hr56]); (try rw [hr97]); (try rw [hF112]); (try rw [hF113]); (try rw [hr115]); (try rw [hr127]); (try rw [hF133]); (try rw [hF134]); rw [if_neg c16, if_pos c57, if_pos c98, if_neg c116, if_pos c123, if_pos c128, if_pos c136, if_neg c137]
                      have e1 : s_X7_tick_f Z f = upd F134 54 ((F134 54) + 0) := by rw [s_X7_tick_f]; (try rw [hF2]); (try rw [hF3]); (try rw [hF5]); (try rw [hF6]); (try rw [hF14]); (try rw [hr56]); (try rw [hr97]); (try rw [hF112]); (try rw [hF113]); (try rw [hr115]); (try rw [hr127]); (try rw [hF133]); (try rw [hF134]); rw [if_neg c16, if_pos c57, if_pos c98, if_neg c116, if_pos c123, if_pos c128, if_pos c136, if_neg c137]
                      exact k_vret kx hK hP231 hD232 hS230 (u := (F133, upd F134 54 ((F134 54) + 0))) rfl ⟨e0.symm, e1.symm⟩ dX7_tick_176
                    · skip
                      refine lv_iconst (v := 1) hx hb dX7_tick_169 (by decide) ?_
                      refine lv_goto (tgt := 174) hx hb dX7_tick_170 (by decide) ?_
                      refine lv_iadd hx hb dX7_tick_174 ?_
                      refine k_iast kx hK hP224 hD225 hS223 1 rfl 54 rfl (by decide) (by decide) dX7_tick_175 (fun H233 locs233 hP233 hD233 hS233 => ?_)
                      have hP234 : va_P G.1 vwCl ([(h0, .inr (7, cM F133 q1 q2 q3 q4 q5 q6 q7 q8 q9 q10 q11 sd)), (h1, .inl (G.2.1, 55, .inl (upd F134 54 ((F134 54) + 1))))]) H233 := hP233
                      have hD235 : va_D A ([(h0, .inr (7, cM F133 q1 q2 q3 q4 q5 q6 q7 q8 q9 q10 q11 sd)), (h1, .inl (G.2.1, 55, .inl (upd F134 54 ((F134 54) + 1))))]) := hD233
                      have e0 : s_X7_tick_Z Z f = F133 := by rw [s_X7_tick_Z]; (try rw [hF2]); (try rw [hF3]); (try rw [hF5]); (try rw [hF6]); (try rw [hF14]); (try rw [hr56]); (try rw [hr97]); (try rw [hF112]); (try rw [hF113]); (try rw [hr115]); (try rw [hr127]); (try rw [hF133]); (try rw [hF134]); rw [if_neg c16, if_pos c57, if_pos c98, if_neg c116, if_pos c123, if_pos c128, if_pos c136, if_pos c137]
                      have e1 : s_X7_tick_f Z f = upd F134 54 ((F134 54) + 1) := by rw [s_X7_tick_f]; (try rw [hF2]); (try rw [hF3]); (try rw [hF5]); (try rw [hF6]); (try rw [hF14]); (try rw [hr56]); (try rw [hr97]); (try rw [hF112]); (try rw [hF113]); (try rw [hr115]); (try rw [hr127]); (try rw [hF133]); (try rw [hF134]); rw [if_neg c16, if_pos c57, if_pos c98, if_neg c116, if_pos c123, if_pos c128, if_pos c136, if_pos c137]
                      exact k_vret kx hK hP234 hD235 hS233 (u := (F133, upd F134 54 ((F134 54) + 1))) rfl ⟨e0.symm, e1.symm⟩ dX7_tick_176
          refine lv_iload_n hx hb dX7_tick_82 rfl (lv_at hl178 0 rfl) ?_
          refine lv_iconst (v := 2) hx hb dX7_tick_83 (by decide) ?_
          refine lv_icmp_ge (x := 0) (y := 2) (tgt := 149) hx hb dX7_tick_84 (by decide) (fun (c100 : 2 ≤ 0) => absurd c100 (by decide)) (fun (c100 : ¬ (2 ≤ 0)) => ?_)
          refine lv_bipush (v := 16) hx hb dX7_tick_87 (by decide) ?_
          refine lv_iload_n hx hb dX7_tick_89 rfl (lv_at hl178 0 rfl) ?_
          refine lv_imul hx hb dX7_tick_90 ?_
          refine k_top (y := 0) (by decide +kernel) ?_
          refine lv_istore_n (lv' := [(3, .int 0), (2, .int 0), (0, .ref h0), (1, .ref h1)]) hx hb dX7_tick_91 rfl hl178 (by decide) rfl (fun ls236 hl236 => ?_)
          refine lv_aload_n hx hb dX7_tick_92 rfl (lv_at hl236 3 rfl) ?_
          refine lv_iload_n hx hb dX7_tick_93 rfl (lv_at hl236 0 rfl) ?_
          refine lv_bipush (v := 9) hx hb dX7_tick_94 (by decide) ?_
          refine lv_iadd hx hb dX7_tick_96 ?_
          refine k_top (y := 9) (by decide +kernel) ?_
          refine lv_aload_n hx hb dX7_tick_97 rfl (lv_at hl236 3 rfl) ?_
          refine lv_iload_n hx hb dX7_tick_98 rfl (lv_at hl236 0 rfl) ?_
          refine lv_bipush (v := 9) hx hb dX7_tick_99 (by decide) ?_
          refine lv_iadd hx hb dX7_tick_101 ?_
          refine k_top (y := 9) (by decide +kernel) ?_
          refine k_iald (v := (F14 9)) kx hK hP175 1 rfl 9 rfl (by decide) (by decide) rfl dX7_tick_102 ?_
          refine lv_iconst (v := 1) hx hb dX7_tick_103 (by decide) ?_
          refine lv_isub hx hb dX7_tick_104 ?_
          refine lv_iconst (v := 0) hx hb dX7_tick_105 (by decide) ?_
          refine k_calli (kRunS (As := [.int ((F14 9) - 1), .int 0]) (rest := [.int 9, .ref h1]) kx (c_X7_max l G ((F14 9) - 1) 0) q_804 q_802 q_36 q_803 nX7_max ⟨Nat.le_of_ble_eq_true rfl, Nat.le_of_ble_eq_true rfl⟩ hK hP175 hD176 (kCtx_nil _) rfl hl236.1 (Nat.le_of_ble_eq_true rfl) dX7_tick_106 ⟨Nat.zero_le _, Nat.zero_le _⟩) hP175 hD176 hS174 hA (kCtx_nil _) (fun _ => rfl) (fun r101 _ H237 locs237 hw hP237 hD237 hS237 => ?_)
          have hr101 : r_X7_max ((F14 9) - 1) 0 = r101 := (show r101 = r_X7_max ((F14 9) - 1) 0 from hw).symm
          have hP238 : va_P G.1 vwCl ([(h0, .inr (7, cM F5 q1 q2 q3 q4 q5 q6 q7 q8 q9 q10 q11 sd)), (h1, .inl (G.2.1, 55, .inl F14))]) H237 := hP237
          have hD239 : va_D A ([(h0, .inr (7, cM F5 q1 q2 q3 q4 q5 q6 q7 q8 q9 q10 q11 sd)), (h1, .inl (G.2.1, 55, .inl F14))]) := hD237
          refine k_iast kx hK hP238 hD239 hS237 1 rfl 9 rfl (by decide) (by decide) dX7_tick_109 (fun H240 locs240 hP240 hD240 hS240 => ?_)
          have hP241 : va_P G.1 vwCl ([(h0, .inr (7, cM F5 q1 q2 q3 q4 q5 q6 q7 q8 q9 q10 q11 sd)), (h1, .inl (G.2.1, 55, .inl (upd F14 9 r101)))]) H240 := hP240
          have hD242 : va_D A ([(h0, .inr (7, cM F5 q1 q2 q3 q4 q5 q6 q7 q8 q9 q10 q11 sd)), (h1, .inl (G.2.1, 55, .inl (upd F14 9 r101)))]) := hD240
          refine lv_aload_n hx hb dX7_tick_110 rfl (lv_at hl236 3 rfl) ?_
          refine lv_iload_n hx hb dX7_tick_111 rfl (lv_at hl236 0 rfl) ?_
          refine lv_bipush (v := 10) hx hb dX7_tick_112 (by decide) ?_
          refine lv_iadd hx hb dX7_tick_114 ?_
          refine k_top (y := 10) (by decide +kernel) ?_
          refine k_iald (v := (F14 10)) kx hK hP241 1 rfl 10 rfl (by decide) (by decide) rfl dX7_tick_115 ?_
          refine lv_iconst (v := 1) hx hb dX7_tick_116 (by decide) ?_
          refine lv_icmp_eq (x := F14 10) (y := 1) (tgt := 137) hx hb dX7_tick_117 (by decide) (fun (c102 : F14 10 = 1) => ?_) (fun (c102 : ¬ (F14 10 = 1)) => ?_)
          · skip
            refine lv_aload_n hx hb dX7_tick_137 rfl (lv_at hl236 2 rfl) ?_
            refine lv_aload_n hx hb dX7_tick_138 rfl (lv_at hl236 3 rfl) ?_
            refine lv_iload_n hx hb dX7_tick_139 rfl (lv_at hl236 1 rfl) ?_
            refine k_callv (kRunV (As := [.ref h1, .int 0]) (rest := []) kx (c_X7_sendOn_0 l G F5 sd h0 q1 q2 q3 q4 q5 q6 q7 q8 q9 q10 q11 (upd F14 9 r101) h1) q_811 q_808 q_36 q_810 q_20 nX7_sendOn ⟨Nat.le_of_ble_eq_true rfl, Nat.le_of_ble_eq_true rfl⟩ hK hP241 hD242 (kCtx_all _) 0 7 rfl rfl rfl rfl hl236.1 (Nat.le_of_ble_eq_true rfl) dX7_tick_140 ⟨Nat.zero_le _, Nat.zero_le _⟩) hP241 hD242 hS240 hA (kCtx_all _) (fun _ => rfl) (fun u H243 locs243 hw hP243 hD243 hS243 => ?_)
            obtain ⟨F104, F105⟩ := u
            obtain ⟨hF104, hF105⟩ := hw
            have hF104 : s_X7_sendOn_0_Z F5 = F104 := (show F104 = s_X7_sendOn_0_Z F5 from hF104).symm
            have hF105 : s_X7_sendOn_0_f F5 (upd F14 9 r101) = F105 := (show F105 = s_X7_sendOn_0_f F5 (upd F14 9 r101) from hF105).symm
            have hP244 : va_P G.1 vwCl ([(h0, .inr (7, cM F104 q1 q2 q3 q4 q5 q6 q7 q8 q9 q10 q11 sd)), (h1, .inl (G.2.1, 55, .inl F105))]) H243 := hP243
            have hD245 : va_D A ([(h0, .inr (7, cM F104 q1 q2 q3 q4 q5 q6 q7 q8 q9 q10 q11 sd)), (h1, .inl (G.2.1, 55, .inl F105))]) := hD243
            refine lv_iinc (v := 1) (lv' := [(2, .int 1), (3, .int 0), (0, .ref h0), (1, .ref h1)]) hx hb dX7_tick_143 hl236 (k := 1) rfl (by decide +kernel) (by decide) rfl (fun ls246 hl246 => ?_)
            refine lv_goto (tgt := 82) hx hb dX7_tick_146 (by decide) ?_
            have e0 : t_X7_tick_4_Z F5 F14 = F104 := by rw [t_X7_tick_4_Z]; (try rw [hr101]); (try rw [hF104]); (try rw [hF105]); rw [if_pos c102]
            have e1 : t_X7_tick_4_f F5 F14 = F105 := by rw [t_X7_tick_4_f]; (try rw [hr101]); (try rw [hF104]); (try rw [hF105]); rw [if_pos c102]
            exact cut4 F104 F105 _ _ _ e0 e1 hP244 hD245 hS243 (lv_sub hl246 [2, 3, 0, 1] rfl)
          · skip
            refine lv_aload_n hx hb dX7_tick_120 rfl (lv_at hl236 3 rfl) ?_
            refine lv_iload_n hx hb dX7_tick_121 rfl (lv_at hl236 0 rfl) ?_
            refine lv_bipush (v := 9) hx hb dX7_tick_122 (by decide) ?_
            refine lv_iadd hx hb dX7_tick_124 ?_
            refine k_top (y := 9) (by decide +kernel) ?_
            refine k_iald (v := r101) kx hK hP241 1 rfl 9 rfl (by decide) (by decide) rfl dX7_tick_125 ?_
            refine lv_if_ne (x := r101) (tgt := 143) hx hb dX7_tick_126 (by decide) (fun (c106 : ¬ (r101 = 0)) => ?_) (fun (c106 : r101 = 0) => ?_)
            · skip
              refine lv_iinc (v := 1) (lv' := [(2, .int 1), (3, .int 0), (0, .ref h0), (1, .ref h1)]) hx hb dX7_tick_143 hl236 (k := 1) rfl (by decide +kernel) (by decide) rfl (fun ls247 hl247 => ?_)
              refine lv_goto (tgt := 82) hx hb dX7_tick_146 (by decide) ?_
              have e0 : t_X7_tick_4_Z F5 F14 = F5 := by rw [t_X7_tick_4_Z]; (try rw [hr101]); rw [if_neg c102, if_neg c106]
              have e1 : t_X7_tick_4_f F5 F14 = upd F14 9 r101 := by rw [t_X7_tick_4_f]; (try rw [hr101]); rw [if_neg c102, if_neg c106]
              exact cut4 F5 (upd F14 9 r101) _ _ _ e0 e1 hP241 hD242 hS240 (lv_sub hl247 [2, 3, 0, 1] rfl)
            · skip
              refine lv_aload_n hx hb dX7_tick_129 rfl (lv_at hl236 3 rfl) ?_
              refine lv_iload_n hx hb dX7_tick_130 rfl (lv_at hl236 0 rfl) ?_
              refine k_calli (kRunS (As := [.ref h1, .int 0]) (rest := []) kx (c_X7_isStill_0 l G (upd F14 9 r101) h1) q_807 q_805 q_36 q_806 nX7_isStill ⟨Nat.le_of_ble_eq_true rfl, Nat.le_of_ble_eq_true rfl⟩ hK hP241 hD242 (kCtx_places _ _ [1] rfl rfl) rfl hl236.1 (Nat.le_of_ble_eq_true rfl) dX7_tick_131 ⟨Nat.zero_le _, Nat.zero_le _⟩) hP241 hD242 hS240 hA (kCtx_places _ _ [1] rfl rfl) (fun _ => rfl) (fun r107 _ H248 locs248 hw hP248 hD248 hS248 => ?_)
              have hr107 : r_X7_isStill_0 (upd F14 9 r101) = r107 := (show r107 = r_X7_isStill_0 (upd F14 9 r101) from hw).symm
              have hP249 : va_P G.1 vwCl ([(h0, .inr (7, cM F5 q1 q2 q3 q4 q5 q6 q7 q8 q9 q10 q11 sd)), (h1, .inl (G.2.1, 55, .inl (upd F14 9 r101)))]) H248 := hP248
              have hD250 : va_D A ([(h0, .inr (7, cM F5 q1 q2 q3 q4 q5 q6 q7 q8 q9 q10 q11 sd)), (h1, .inl (G.2.1, 55, .inl (upd F14 9 r101)))]) := hD248
              refine lv_if_ne (x := r107) (tgt := 143) hx hb dX7_tick_134 (by decide) (fun (c108 : ¬ (r107 = 0)) => ?_) (fun (c108 : r107 = 0) => ?_)
              · skip
                refine lv_iinc (v := 1) (lv' := [(2, .int 1), (3, .int 0), (0, .ref h0), (1, .ref h1)]) hx hb dX7_tick_143 hl236 (k := 1) rfl (by decide +kernel) (by decide) rfl (fun ls251 hl251 => ?_)
                refine lv_goto (tgt := 82) hx hb dX7_tick_146 (by decide) ?_
                have e0 : t_X7_tick_4_Z F5 F14 = F5 := by rw [t_X7_tick_4_Z]; (try rw [hr101]); (try rw [hr107]); rw [if_neg c102, if_pos c106, if_neg c108]
                have e1 : t_X7_tick_4_f F5 F14 = upd F14 9 r101 := by rw [t_X7_tick_4_f]; (try rw [hr101]); (try rw [hr107]); rw [if_neg c102, if_pos c106, if_neg c108]
                exact cut4 F5 (upd F14 9 r101) _ _ _ e0 e1 hP249 hD250 hS248 (lv_sub hl251 [2, 3, 0, 1] rfl)
              · skip
                refine lv_aload_n hx hb dX7_tick_137 rfl (lv_at hl236 2 rfl) ?_
                refine lv_aload_n hx hb dX7_tick_138 rfl (lv_at hl236 3 rfl) ?_
                refine lv_iload_n hx hb dX7_tick_139 rfl (lv_at hl236 1 rfl) ?_
                refine k_callv (kRunV (As := [.ref h1, .int 0]) (rest := []) kx (c_X7_sendOn_0 l G F5 sd h0 q1 q2 q3 q4 q5 q6 q7 q8 q9 q10 q11 (upd F14 9 r101) h1) q_811 q_808 q_36 q_810 q_20 nX7_sendOn ⟨Nat.le_of_ble_eq_true rfl, Nat.le_of_ble_eq_true rfl⟩ hK hP249 hD250 (kCtx_all _) 0 7 rfl rfl rfl rfl hl236.1 (Nat.le_of_ble_eq_true rfl) dX7_tick_140 ⟨Nat.zero_le _, Nat.zero_le _⟩) hP249 hD250 hS248 hA (kCtx_all _) (fun _ => rfl) (fun u H252 locs252 hw hP252 hD252 hS252 => ?_)
                obtain ⟨F110, F111⟩ := u
                obtain ⟨hF110, hF111⟩ := hw
                have hF110 : s_X7_sendOn_0_Z F5 = F110 := (show F110 = s_X7_sendOn_0_Z F5 from hF110).symm
                have hF111 : s_X7_sendOn_0_f F5 (upd F14 9 r101) = F111 := (show F111 = s_X7_sendOn_0_f F5 (upd F14 9 r101) from hF111).symm
                have hP253 : va_P G.1 vwCl ([(h0, .inr (7, cM F110 q1 q2 q3 q4 q5 q6 q7 q8 q9 q10 q11 sd)), (h1, .inl (G.2.1, 55, .inl F111))]) H252 := hP252
                have hD254 : va_D A ([(h0, .inr (7, cM F110 q1 q2 q3 q4 q5 q6 q7 q8 q9 q10 q11 sd)), (h1, .inl (G.2.1, 55, .inl F111))]) := hD252
                refine lv_iinc (v := 1) (lv' := [(2, .int 1), (3, .int 0), (0, .ref h0), (1, .ref h1)]) hx hb dX7_tick_143 hl236 (k := 1) rfl (by decide +kernel) (by decide) rfl (fun ls255 hl255 => ?_)
                refine lv_goto (tgt := 82) hx hb dX7_tick_146 (by decide) ?_
                have e0 : t_X7_tick_4_Z F5 F14 = F110 := by rw [t_X7_tick_4_Z]; (try rw [hr101]); (try rw [hr107]); (try rw [hF110]); (try rw [hF111]); rw [if_neg c102, if_pos c106, if_pos c108]
                have e1 : t_X7_tick_4_f F5 F14 = F111 := by rw [t_X7_tick_4_f]; (try rw [hr101]); (try rw [hr107]); (try rw [hF110]); (try rw [hF111]); rw [if_neg c102, if_pos c106, if_pos c108]
                exact cut4 F110 F111 _ _ _ e0 e1 hP253 hD254 hS252 (lv_sub hl255 [2, 3, 0, 1] rfl)
        · skip
          refine lv_aload_n hx hb dX7_tick_62 rfl (lv_at hl12 2 rfl) ?_
          refine lv_iload_n hx hb dX7_tick_63 rfl (lv_at hl12 0 rfl) ?_
          refine k_callv (kRunS (As := [.ref h1, .int 16]) (rest := []) kx (c_X7_fall_16 l G F14 h1) q_792 q_790 q_36 q_791 nX7_fall ⟨Nat.le_of_ble_eq_true rfl, Nat.le_of_ble_eq_true rfl⟩ hK hP175 hD176 (kCtx_places _ _ [1] rfl rfl) rfl hl12.1 (Nat.le_of_ble_eq_true rfl) dX7_tick_64 ⟨Nat.zero_le _, Nat.zero_le _⟩) hP175 hD176 hS174 hA (kCtx_places _ _ [1] rfl rfl) (fun _ => rfl) (fun _ H256 locs256 hw hP256 hD256 hS256 => ?_)
          have hP257 : va_P G.1 vwCl ([(h0, .inr (7, cM F5 q1 q2 q3 q4 q5 q6 q7 q8 q9 q10 q11 sd)), (h1, .inl (G.2.1, 55, .inl (upd (upd (upd (upd F14 21 0) 22 0) 19 (F14 16)) 20 (F14 17))))]) H256 := hP256
          have hD258 : va_D A ([(h0, .inr (7, cM F5 q1 q2 q3 q4 q5 q6 q7 q8 q9 q10 q11 sd)), (h1, .inl (G.2.1, 55, .inl (upd (upd (upd (upd F14 21 0) 22 0) 19 (F14 16)) 20 (F14 17))))]) := hD256
          refine lv_aload_n hx hb dX7_tick_67 rfl (lv_at hl12 2 rfl) ?_
          refine lv_iload_n hx hb dX7_tick_68 rfl (lv_at hl12 0 rfl) ?_
          refine lv_bipush (v := 11) hx hb dX7_tick_69 (by decide) ?_
          refine lv_iadd hx hb dX7_tick_71 ?_
          refine k_top (y := 27) (by decide +kernel) ?_
          refine lv_iconst (v := 0) hx hb dX7_tick_72 (by decide) ?_
          refine k_iast kx hK hP257 hD258 hS256 1 rfl 27 rfl (by decide) (by decide) dX7_tick_73 (fun H259 locs259 hP259 hD259 hS259 => ?_)
          have hP260 : va_P G.1 vwCl ([(h0, .inr (7, cM F5 q1 q2 q3 q4 q5 q6 q7 q8 q9 q10 q11 sd)), (h1, .inl (G.2.1, 55, .inl (upd (upd (upd (upd (upd F14 21 0) 22 0) 19 (F14 16)) 20 (F14 17)) 27 0)))]) H259 := hP259
          have hD261 : va_D A ([(h0, .inr (7, cM F5 q1 q2 q3 q4 q5 q6 q7 q8 q9 q10 q11 sd)), (h1, .inl (G.2.1, 55, .inl (upd (upd (upd (upd (upd F14 21 0) 22 0) 19 (F14 16)) 20 (F14 17)) 27 0)))]) := hD259
          refine lv_iinc (v := 2) (lv' := [(2, .int 2), (3, .int 16), (0, .ref h0), (1, .ref h1)]) hx hb dX7_tick_74 hl12 (k := 3) rfl (by decide +kernel) (by decide) rfl (fun ls262 hl262 => ?_)
          refine lv_goto (tgt := 22) hx hb dX7_tick_77 (by decide) ?_
          refine lv_iload_n hx hb dX7_tick_22 rfl (lv_at hl262 0 rfl) ?_
          refine lv_iconst (v := 2) hx hb dX7_tick_23 (by decide) ?_
          refine lv_icmp_ge (x := 2) (y := 2) (tgt := 80) hx hb dX7_tick_24 (by decide) (fun (c139 : 2 ≤ 2) => ?_) (fun (c139 : ¬ (2 ≤ 2)) => absurd (by decide) c139)
          refine lv_iconst (v := 0) hx hb dX7_tick_80 (by decide) ?_
          refine lv_istore_n (lv' := [(2, .int 0), (3, .int 16), (0, .ref h0), (1, .ref h1)]) hx hb dX7_tick_81 rfl hl262 (by decide) rfl (fun ls263 hl263 => ?_)
          have cut5 : ∀ (F152 : Nat → Int32) (F153 : Nat → Int32) (H : Heap) (locs : List Loc) (ls : Array Slot), (hF152 : t_X7_tick_5_Z F5 F14 = F152) → (hF153 : t_X7_tick_5_f F5 F14 = F153) → va_P G.1 vwCl ([(h0, .inr (7, cM F152 q1 q2 q3 q4 q5 q6 q7 q8 q9 q10 q11 sd)), (h1, .inl (G.2.1, 55, .inl F153))]) H → va_D A ([(h0, .inr (7, cM F152 q1 q2 q3 q4 q5 q6 q7 q8 q9 q10 q11 sd)), (h1, .inl (G.2.1, 55, .inl F153))]) → va_S A s.heap H locs → lv_has ls 4 [(0, .ref h0), (1, .ref h1), (2, .int 1), (3, .int 0)] → W p l e (kr 4) s m args below meth c H locs 0 0 (MQ below (qV G (fun u : ((Nat → Int32) × (Nat → Int32)) => u.1 = s_X7_tick_Z Z f ∧ u.2 = s_X7_tick_f Z f) (fun u => [(h0, .inr (7, cM u.1 q1 q2 q3 q4 q5 q6 q7 q8 q9 q10 q11 sd)), (h1, .inl (G.2.1, 55, .inl u.2))]) A) args s 0 0 A) (F0 m 82 ls []) := by
            intro F152 F153 H264 locs264 ls264 hF152 hF153 hP264 hD264 hS264 hl264
            refine lv_iload_n hx hb dX7_tick_82 rfl (lv_at hl264 2 rfl) ?_
            refine lv_iconst (v := 2) hx hb dX7_tick_83 (by decide) ?_
            refine lv_icmp_ge (x := 1) (y := 2) (tgt := 149) hx hb dX7_tick_84 (by decide) (fun (c154 : 2 ≤ 1) => absurd c154 (by decide)) (fun (c154 : ¬ (2 ≤ 1)) => ?_)
            refine lv_bipush (v := 16) hx hb dX7_tick_87 (by decide) ?_
            refine lv_iload_n hx hb dX7_tick_89 rfl (lv_at hl264 2 rfl) ?_
            refine lv_imul hx hb dX7_tick_90 ?_
            refine k_top (y := 16) (by decide +kernel) ?_
            refine lv_istore_n (lv' := [(3, .int 16), (0, .ref h0), (1, .ref h1), (2, .int 1)]) hx hb dX7_tick_91 rfl hl264 (by decide) rfl (fun ls265 hl265 => ?_)
            refine lv_aload_n hx hb dX7_tick_92 rfl (lv_at hl265 2 rfl) ?_
            refine lv_iload_n hx hb dX7_tick_93 rfl (lv_at hl265 0 rfl) ?_
            refine lv_bipush (v := 9) hx hb dX7_tick_94 (by decide) ?_
            refine lv_iadd hx hb dX7_tick_96 ?_
            refine k_top (y := 25) (by decide +kernel) ?_
            refine lv_aload_n hx hb dX7_tick_97 rfl (lv_at hl265 2 rfl) ?_
            refine lv_iload_n hx hb dX7_tick_98 rfl (lv_at hl265 0 rfl) ?_
            refine lv_bipush (v := 9) hx hb dX7_tick_99 (by decide) ?_
            refine lv_iadd hx hb dX7_tick_101 ?_
            refine k_top (y := 25) (by decide +kernel) ?_
            refine k_iald (v := (F153 25)) kx hK hP264 1 rfl 25 rfl (by decide) (by decide) rfl dX7_tick_102 ?_
            refine lv_iconst (v := 1) hx hb dX7_tick_103 (by decide) ?_
            refine lv_isub hx hb dX7_tick_104 ?_
            refine lv_iconst (v := 0) hx hb dX7_tick_105 (by decide) ?_
            refine k_calli (kRunS (As := [.int ((F153 25) - 1), .int 0]) (rest := [.int 25, .ref h1]) kx (c_X7_max l G ((F153 25) - 1) 0) q_804 q_802 q_36 q_803 nX7_max ⟨Nat.le_of_ble_eq_true rfl, Nat.le_of_ble_eq_true rfl⟩ hK hP264 hD264 (kCtx_nil _) rfl hl265.1 (Nat.le_of_ble_eq_true rfl) dX7_tick_106 ⟨Nat.zero_le _, Nat.zero_le _⟩) hP264 hD264 hS264 hA (kCtx_nil _) (fun _ => rfl) (fun r155 _ H266 locs266 hw hP266 hD266 hS266 => ?_)
            have hr155 : r_X7_max ((F153 25) - 1) 0 = r155 := (show r155 = r_X7_max ((F153 25) - 1) 0 from hw).symm
            have hP267 : va_P G.1 vwCl ([(h0, .inr (7, cM F152 q1 q2 q3 q4 q5 q6 q7 q8 q9 q10 q11 sd)), (h1, .inl (G.2.1, 55, .inl F153))]) H266 := hP266
            have hD268 : va_D A ([(h0, .inr (7, cM F152 q1 q2 q3 q4 q5 q6 q7 q8 q9 q10 q11 sd)), (h1, .inl (G.2.1, 55, .inl F153))]) := hD266
            refine k_iast kx hK hP267 hD268 hS266 1 rfl 25 rfl (by decide) (by decide) dX7_tick_109 (fun H269 locs269 hP269 hD269 hS269 => ?_)
            have hP270 : va_P G.1 vwCl ([(h0, .inr (7, cM F152 q1 q2 q3 q4 q5 q6 q7 q8 q9 q10 q11 sd)), (h1, .inl (G.2.1, 55, .inl (upd F153 25 r155)))]) H269 := hP269
            have hD271 : va_D A ([(h0, .inr (7, cM F152 q1 q2 q3 q4 q5 q6 q7 q8 q9 q10 q11 sd)), (h1, .inl (G.2.1, 55, .inl (upd F153 25 r155)))]) := hD269
            refine lv_aload_n hx hb dX7_tick_110 rfl (lv_at hl265 2 rfl) ?_
            refine lv_iload_n hx hb dX7_tick_111 rfl (lv_at hl265 0 rfl) ?_
            refine lv_bipush (v := 10) hx hb dX7_tick_112 (by decide) ?_
            refine lv_iadd hx hb dX7_tick_114 ?_
            refine k_top (y := 26) (by decide +kernel) ?_
            refine k_iald (v := (F153 26)) kx hK hP270 1 rfl 26 rfl (by decide) (by decide) rfl dX7_tick_115 ?_
            refine lv_iconst (v := 1) hx hb dX7_tick_116 (by decide) ?_
            refine lv_icmp_eq (x := F153 26) (y := 1) (tgt := 137) hx hb dX7_tick_117 (by decide) (fun (c156 : F153 26 = 1) => ?_) (fun (c156 : ¬ (F153 26 = 1)) => ?_)
            · skip
              refine lv_aload_n hx hb dX7_tick_137 rfl (lv_at hl265 1 rfl) ?_
              refine lv_aload_n hx hb dX7_tick_138 rfl (lv_at hl265 2 rfl) ?_
              refine lv_iload_n hx hb dX7_tick_139 rfl (lv_at hl265 3 rfl) ?_
              refine k_callv (kRunV (As := [.ref h1, .int 1]) (rest := []) kx (c_X7_sendOn_1 l G F152 sd h0 q1 q2 q3 q4 q5 q6 q7 q8 q9 q10 q11 (upd F153 25 r155) h1) q_811 q_808 q_36 q_810 q_20 nX7_sendOn ⟨Nat.le_of_ble_eq_true rfl, Nat.le_of_ble_eq_true rfl⟩ hK hP270 hD271 (kCtx_all _) 0 7 rfl rfl rfl rfl hl265.1 (Nat.le_of_ble_eq_true rfl) dX7_tick_140 ⟨Nat.zero_le _, Nat.zero_le _⟩) hP270 hD271 hS269 hA (kCtx_all _) (fun _ => rfl) (fun u H272 locs272 hw hP272 hD272 hS272 => ?_)
              obtain ⟨F158, F159⟩ := u
              obtain ⟨hF158, hF159⟩ := hw
              have hF158 : s_X7_sendOn_1_Z F152 = F158 := (show F158 = s_X7_sendOn_1_Z F152 from hF158).symm
              have hF159 : s_X7_sendOn_1_f F152 (upd F153 25 r155) = F159 := (show F159 = s_X7_sendOn_1_f F152 (upd F153 25 r155) from hF159).symm
              have hP273 : va_P G.1 vwCl ([(h0, .inr (7, cM F158 q1 q2 q3 q4 q5 q6 q7 q8 q9 q10 q11 sd)), (h1, .inl (G.2.1, 55, .inl F159))]) H272 := hP272
              have hD274 : va_D A ([(h0, .inr (7, cM F158 q1 q2 q3 q4 q5 q6 q7 q8 q9 q10 q11 sd)), (h1, .inl (G.2.1, 55, .inl F159))]) := hD272
              refine lv_iinc (v := 2) (lv' := [(2, .int 2), (3, .int 16), (0, .ref h0), (1, .ref h1)]) hx hb dX7_tick_143 hl265 (k := 3) rfl (by decide +kernel) (by decide) rfl (fun ls275 hl275 => ?_)
              refine lv_goto (tgt := 82) hx hb dX7_tick_146 (by decide) ?_
              refine lv_iload_n hx hb dX7_tick_82 rfl (lv_at hl275 0 rfl) ?_
              refine lv_iconst (v := 2) hx hb dX7_tick_83 (by decide) ?_
              refine lv_icmp_ge (x := 2) (y := 2) (tgt := 149) hx hb dX7_tick_84 (by decide) (fun (c160 : 2 ≤ 2) => ?_) (fun (c160 : ¬ (2 ≤ 2)) => absurd (by decide) c160)
              refine lv_aload_n hx hb dX7_tick_149 rfl (lv_at hl275 3 rfl) ?_
              refine lv_bipush (v := 54) hx hb dX7_tick_150 (by decide) ?_
              refine lv_dup2_11 hx hb dX7_tick_152 rfl rfl ?_
              refine k_iald (v := (F159 54)) kx hK hP273 1 rfl 54 rfl (by decide) (by decide) rfl dX7_tick_153 ?_
              refine lv_aload_n hx hb dX7_tick_154 rfl (lv_at hl275 3 rfl) ?_
              refine lv_iconst (v := 5) hx hb dX7_tick_155 (by decide) ?_
              refine k_iald (v := (F159 5)) kx hK hP273 1 rfl 5 rfl (by decide) (by decide) rfl dX7_tick_156 ?_
              refine lv_iconst (v := 2) hx hb dX7_tick_157 (by decide) ?_
              refine lv_icmp_ne (x := F159 5) (y := 2) (tgt := 173) hx hb dX7_tick_158 (by decide) (fun (c161 : ¬ (F159 5 = 2)) => ?_) (fun (c161 : F159 5 = 2) => ?_)
              · skip
                refine lv_iconst (v := 0) hx hb dX7_tick_173 (by decide) ?_
                refine lv_iadd hx hb dX7_tick_174 ?_
                refine k_iast kx hK hP273 hD274 hS272 1 rfl 54 rfl (by decide) (by decide) dX7_tick_175 (fun H276 locs276 hP276 hD276 hS276 => ?_)
                have hP277 : va_P G.1 vwCl ([(h0, .inr (7, cM F158 q1 q2 q3 q4 q5 q6 q7 q8 q9 q10 q11 sd)), (h1, .inl (G.2.1, 55, .inl (upd F159 54 ((F159 54) + 0))))]) H276 := hP276
                have hD278 : va_D A ([(h0, .inr (7, cM F158 q1 q2 q3 q4 q5 q6 q7 q8 q9 q10 q11 sd)), (h1, .inl (G.2.1, 55, .inl (upd F159 54 ((F159 54) + 0))))]) := hD276
                have e0 : s_X7_tick_Z Z f = F158 := by rw [s_X7_tick_Z]; (try rw [hF2]); (try rw [hF3]); (try rw [hF5]); (try rw [hF6]); (try rw [hF14]); (try rw [hr56]); (try rw [hr97]); (try rw [hF152]); (try rw [hF153]); (try rw [hr155]); (try rw [hF158]); (try rw [hF159]); rw [if_neg c16, if_pos c57, if_neg c98, if_pos c156, if_neg c161]
                have e1 : s_X7_tick_f Z f = upd F159 54 ((F159 54) + 0) := by rw [s_X7_tick_f]; (try rw [hF2]); (try rw [hF3]); (try rw [hF5]); (try rw [hF6]); (try rw [hF14]); (try rw [hr56]); (try rw [hr97]); (try rw [hF152]); (try rw [hF153]); (try rw [hr155]); (try rw [hF158]); (try rw [hF159]); rw [if_neg c16, if_pos c57, if_neg c98, if_pos c156, if_neg c161]
                exact k_vret kx hK hP277 hD278 hS276 (u := (F158, upd F159 54 ((F159 54) + 0))) rfl ⟨e0.symm, e1.symm⟩ dX7_tick_176
              · skip
                refine lv_aload_n hx hb dX7_tick_161 rfl (lv_at hl275 3 rfl) ?_
                refine lv_bipush (v := 21) hx hb dX7_tick_162 (by decide) ?_
                refine k_iald (v := (F159 21)) kx hK hP273 1 rfl 21 rfl (by decide) (by decide) rfl dX7_tick_164 ?_
                refine lv_iconst (v := 2) hx hb dX7_tick_165 (by decide) ?_
                refine lv_icmp_ne (x := F159 21) (y := 2) (tgt := 173) hx hb dX7_tick_166 (by decide) (fun (c162 : ¬ (F159 21 = 2)) => ?_) (fun (c162 : F159 21 = 2) => ?_)
                · skip
                  refine lv_iconst (v := 0) hx hb dX7_tick_173 (by decide) ?_
                  refine lv_iadd hx hb dX7_tick_174 ?_
                  refine k_iast kx hK hP273 hD274 hS272 1 rfl 54 rfl (by decide) (by decide) dX7_tick_175 (fun H279 locs279 hP279 hD279 hS279 => ?_)
                  have hP280 : va_P G.1 vwCl ([(h0, .inr (7, cM F158 q1 q2 q3 q4 q5 q6 q7 q8 q9 q10 q11 sd)), (h1, .inl (G.2.1, 55, .inl (upd F159 54 ((F159 54) + 0))))]) H279 := hP279
                  have hD281 : va_D A ([(h0, .inr (7, cM F158 q1 q2 q3 q4 q5 q6 q7 q8 q9 q10 q11 sd)), (h1, .inl (G.2.1, 55, .inl (upd F159 54 ((F159 54) + 0))))]) := hD279
                  have e0 : s_X7_tick_Z Z f = F158 := by rw [s_X7_tick_Z]; (try rw [hF2]); (try rw [hF3]); (try rw [hF5]); (try rw [hF6]); (try rw [hF14]); (try rw [hr56]); (try rw [hr97]); (try rw [hF152]); (try rw [hF153]); (try rw [hr155]); (try rw [hF158]); (try rw [hF159]); rw [if_neg c16, if_pos c57, if_neg c98, if_pos c156, if_pos c161, if_neg c162]
                  have e1 : s_X7_tick_f Z f = upd F159 54 ((F159 54) + 0) := by rw [s_X7_tick_f]; (try rw [hF2]); (try rw [hF3]); (try rw [hF5]); (try rw [hF6]); (try rw [hF14]); (try rw [hr56]); (try rw [hr97]); (try rw [hF152]); (try rw [hF153]); (try rw [hr155]); (try rw [hF158]); (try rw [hF159]); rw [if_neg c16, if_pos c57, if_neg c98, if_pos c156, if_pos c161, if_neg c162]
                  exact k_vret kx hK hP280 hD281 hS279 (u := (F158, upd F159 54 ((F159 54) + 0))) rfl ⟨e0.symm, e1.symm⟩ dX7_tick_176
                · skip
                  refine lv_iconst (v := 1) hx hb dX7_tick_169 (by decide) ?_
                  refine lv_goto (tgt := 174) hx hb dX7_tick_170 (by decide) ?_
                  refine lv_iadd hx hb dX7_tick_174 ?_
                  refine k_iast kx hK hP273 hD274 hS272 1 rfl 54 rfl (by decide) (by decide) dX7_tick_175 (fun H282 locs282 hP282 hD282 hS282 => ?_)
                  have hP283 : va_P G.1 vwCl ([(h0, .inr (7, cM F158 q1 q2 q3 q4 q5 q6 q7 q8 q9 q10 q11 sd)), (h1, .inl (G.2.1, 55, .inl (upd F159 54 ((F159 54) + 1))))]) H282 := hP282
                  have hD284 : va_D A ([(h0, .inr (7, cM F158 q1 q2 q3 q4 q5 q6 q7 q8 q9 q10 q11 sd)), (h1, .inl (G.2.1, 55, .inl (upd F159 54 ((F159 54) + 1))))]) := hD282
                  have e0 : s_X7_tick_Z Z f = F158 := by rw [s_X7_tick_Z]; (try rw [hF2]); (try rw [hF3]); (try rw [hF5]); (try rw [hF6]); (try rw [hF14]); (try rw [hr56]); (try rw [hr97]); (try rw [hF152]); (try rw [hF153]); (try rw [hr155]); (try rw [hF158]); (try rw [hF159]); rw [if_neg c16, if_pos c57, if_neg c98, if_pos c156, if_pos c161, if_pos c162]
                  have e1 : s_X7_tick_f Z f = upd F159 54 ((F159 54) + 1) := by rw [s_X7_tick_f]; (try rw [hF2]); (try rw [hF3]); (try rw [hF5]); (try rw [hF6]); (try rw [hF14]); (try rw [hr56]); (try rw [hr97]); (try rw [hF152]); (try rw [hF153]); (try rw [hr155]); (try rw [hF158]); (try rw [hF159]); rw [if_neg c16, if_pos c57, if_neg c98, if_pos c156, if_pos c161, if_pos c162]
                  exact k_vret kx hK hP283 hD284 hS282 (u := (F158, upd F159 54 ((F159 54) + 1))) rfl ⟨e0.symm, e1.symm⟩ dX7_tick_176
            · skip
              refine lv_aload_n hx hb dX7_tick_120 rfl (lv_at hl265 2 rfl) ?_
              refine lv_iload_n hx hb dX7_tick_121 rfl (lv_at hl265 0 rfl) ?_
              refine lv_bipush (v := 9) hx hb dX7_tick_122 (by decide) ?_
              refine lv_iadd hx hb dX7_tick_124 ?_
              refine k_top (y := 25) (by decide +kernel) ?_
              refine k_iald (v := r155) kx hK hP270 1 rfl 25 rfl (by decide) (by decide) rfl dX7_tick_125 ?_
              refine lv_if_ne (x := r155) (tgt := 143) hx hb dX7_tick_126 (by decide) (fun (c163 : ¬ (r155 = 0)) => ?_) (fun (c163 : r155 = 0) => ?_)
              · skip
                refine lv_iinc (v := 2) (lv' := [(2, .int 2), (3, .int 16), (0, .ref h0), (1, .ref h1)]) hx hb dX7_tick_143 hl265 (k := 3) rfl (by decide +kernel) (by decide) rfl (fun ls285 hl285 => ?_)
                refine lv_goto (tgt := 82) hx hb dX7_tick_146 (by decide) ?_
                refine lv_iload_n hx hb dX7_tick_82 rfl (lv_at hl285 0 rfl) ?_
                refine lv_iconst (v := 2) hx hb dX7_tick_83 (by decide) ?_
                refine lv_icmp_ge (x := 2) (y := 2) (tgt := 149) hx hb dX7_tick_84 (by decide) (fun (c164 : 2 ≤ 2) => ?_) (fun (c164 : ¬ (2 ≤ 2)) => absurd (by decide) c164)
                refine lv_aload_n hx hb dX7_tick_149 rfl (lv_at hl285 3 rfl) ?_
                refine lv_bipush (v := 54) hx hb dX7_tick_150 (by decide) ?_
                refine lv_dup2_11 hx hb dX7_tick_152 rfl rfl ?_
                refine k_iald (v := (F153 54)) kx hK hP270 1 rfl 54 rfl (by decide) (by decide) rfl dX7_tick_153 ?_
                refine lv_aload_n hx hb dX7_tick_154 rfl (lv_at hl285 3 rfl) ?_
                refine lv_iconst (v := 5) hx hb dX7_tick_155 (by decide) ?_
                refine k_iald (v := (F153 5)) kx hK hP270 1 rfl 5 rfl (by decide) (by decide) rfl dX7_tick_156 ?_
                refine lv_iconst (v := 2) hx hb dX7_tick_157 (by decide) ?_
                refine lv_icmp_ne (x := F153 5) (y := 2) (tgt := 173) hx hb dX7_tick_158 (by decide) (fun (c165 : ¬ (F153 5 = 2)) => ?_) (fun (c165 : F153 5 = 2) => ?_)
                · skip
                  refine lv_iconst (v := 0) hx hb dX7_tick_173 (by decide) ?_
                  refine lv_iadd hx hb dX7_tick_174 ?_
                  refine k_iast kx hK hP270 hD271 hS269 1 rfl 54 rfl (by decide) (by decide) dX7_tick_175 (fun H286 locs286 hP286 hD286 hS286 => ?_)
                  have hP287 : va_P G.1 vwCl ([(h0, .inr (7, cM F152 q1 q2 q3 q4 q5 q6 q7 q8 q9 q10 q11 sd)), (h1, .inl (G.2.1, 55, .inl (upd (upd F153 25 r155) 54 ((F153 54) + 0))))]) H286 := hP286
                  have hD288 : va_D A ([(h0, .inr (7, cM F152 q1 q2 q3 q4 q5 q6 q7 q8 q9 q10 q11 sd)), (h1, .inl (G.2.1, 55, .inl (upd (upd F153 25 r155) 54 ((F153 54) + 0))))]) := hD286
                  have e0 : s_X7_tick_Z Z f = F152 := by rw [s_X7_tick_Z]; (try rw [hF2]); (try rw [hF3]); (try rw [hF5]); (try rw [hF6]); (try rw [hF14]); (try rw [hr56]); (try rw [hr97]); (try rw [hF152]); (try rw [hF153]); (try rw [hr155]); rw [if_neg c16, if_pos c57, if_neg c98, if_neg c156, if_neg c163, if_neg c165]
                  have e1 : s_X7_tick_f Z f = upd (upd F153 25 r155) 54 ((F153 54) + 0) := by rw [s_X7_tick_f]; (try rw [hF2]); (try rw [hF3]); (try rw [hF5]); (try rw [hF6]); (try rw [hF14]); (try rw [hr56]); (try rw [hr97]); (try rw [hF152]); (try rw [hF153]); (try rw [hr155]); rw [if_neg c16, if_pos c57, if_neg c98, if_neg c156, if_neg c163, if_neg c165]
                  exact k_vret kx hK hP287 hD288 hS286 (u := (F152, upd (upd F153 25 r155) 54 ((F153 54) + 0))) rfl ⟨e0.symm, e1.symm⟩ dX7_tick_176
                · skip
                  refine lv_aload_n hx hb dX7_tick_161 rfl (lv_at hl285 3 rfl) ?_
                  refine lv_bipush (v := 21) hx hb dX7_tick_162 (by decide) ?_
                  refine k_iald (v := (F153 21)) kx hK hP270 1 rfl 21 rfl (by decide) (by decide) rfl dX7_tick_164 ?_
                  refine lv_iconst (v := 2) hx hb dX7_tick_165 (by decide) ?_
                  refine lv_icmp_ne (x := F153 21) (y := 2) (tgt := 173) hx hb dX7_tick_166 (by decide) (fun (c166 : ¬ (F153 21 = 2)) => ?_) (fun (c166 : F153 21 = 2) => ?_)
                  · skip
                    refine lv_iconst (v := 0) hx hb dX7_tick_173 (by decide) ?_
                    refine lv_iadd hx hb dX7_tick_174 ?_
                    refine k_iast kx hK hP270 hD271 hS269 1 rfl 54 rfl (by decide) (by decide) dX7_tick_175 (fun H289 locs289 hP289 hD289 hS289 => ?_)
                    have hP290 : va_P G.1 vwCl ([(h0, .inr (7, cM F152 q1 q2 q3 q4 q5 q6 q7 q8 q9 q10 q11 sd)), (h1, .inl (G.2.1, 55, .inl (upd (upd F153 25 r155) 54 ((F153 54) + 0))))]) H289 := hP289
                    have hD291 : va_D A ([(h0, .inr (7, cM F152 q1 q2 q3 q4 q5 q6 q7 q8 q9 q10 q11 sd)), (h1, .inl (G.2.1, 55, .inl (upd (upd F153 25 r155) 54 ((F153 54) + 0))))]) := hD289
                    have e0 : s_X7_tick_Z Z f = F152 := by rw [s_X7_tick_Z]; (try rw [hF2]); (try rw [hF3]); (try rw [hF5]); (try rw [hF6]); (try rw [hF14]); (try rw [hr56]); (try rw [hr97]); (try rw [hF152]); (try rw [hF153]); (try rw [hr155]); rw [if_neg c16, if_pos c57, if_neg c98, if_neg c156, if_neg c163, if_pos c165, if_neg c166]
                    have e1 : s_X7_tick_f Z f = upd (upd F153 25 r155) 54 ((F153 54) + 0) := by rw [s_X7_tick_f]; (try rw [hF2]); (try rw [hF3]); (try rw [hF5]); (try rw [hF6]); (try rw [hF14]); (try rw [hr56]); (try rw [hr97]); (try rw [hF152]); (try rw [hF153]); (try rw [hr155]); rw [if_neg c16, if_pos c57, if_neg c98, if_neg c156, if_neg c163, if_pos c165, if_neg c166]
                    exact k_vret kx hK hP290 hD291 hS289 (u := (F152, upd (upd F153 25 r155) 54 ((F153 54) + 0))) rfl ⟨e0.symm, e1.symm⟩ dX7_tick_176
                  · skip
                    refine lv_iconst (v := 1) hx hb dX7_tick_169 (by decide) ?_
                    refine lv_goto (tgt := 174) hx hb dX7_tick_170 (by decide) ?_
                    refine lv_iadd hx hb dX7_tick_174 ?_
                    refine k_iast kx hK hP270 hD271 hS269 1 rfl 54 rfl (by decide) (by decide) dX7_tick_175 (fun H292 locs292 hP292 hD292 hS292 => ?_)
                    have hP293 : va_P G.1 vwCl ([(h0, .inr (7, cM F152 q1 q2 q3 q4 q5 q6 q7 q8 q9 q10 q11 sd)), (h1, .inl (G.2.1, 55, .inl (upd (upd F153 25 r155) 54 ((F153 54) + 1))))]) H292 := hP292
                    have hD294 : va_D A ([(h0, .inr (7, cM F152 q1 q2 q3 q4 q5 q6 q7 q8 q9 q10 q11 sd)), (h1, .inl (G.2.1, 55, .inl (upd (upd F153 25 r155) 54 ((F153 54) + 1))))]) := hD292
                    have e0 : s_X7_tick_Z Z f = F152 := by rw [s_X7_tick_Z]; (try rw [hF2]); (try rw [hF3]); (try rw [hF5]); (try rw [hF6]); (try rw [hF14]); (try rw [hr56]); (try rw [hr97]); (try rw [hF152]); (try rw [hF153]); (try rw [hr155]); rw [if_neg c16, if_pos c57, if_neg c98, if_neg c156, if_neg c163, if_pos c165, if_pos c166]
                    have e1 : s_X7_tick_f Z f = upd (upd F153 25 r155) 54 ((F153 54) + 1) := by rw [s_X7_tick_f]; (try rw [hF2]); (try rw [hF3]); (try rw [hF5]); (try rw [hF6]); (try rw [hF14]); (try rw [hr56]); (try rw [hr97]); (try rw [hF152]); (try rw [hF153]); (try rw [hr155]); rw [if_neg c16, if_pos c57, if_neg c98, if_neg c156, if_neg c163, if_pos c165, if_pos c166]
                    exact k_vret kx hK hP293 hD294 hS292 (u := (F152, upd (upd F153 25 r155) 54 ((F153 54) + 1))) rfl ⟨e0.symm, e1.symm⟩ dX7_tick_176
              · skip
                refine lv_aload_n hx hb dX7_tick_129 rfl (lv_at hl265 2 rfl) ?_
                refine lv_iload_n hx hb dX7_tick_130 rfl (lv_at hl265 0 rfl) ?_
                refine k_calli (kRunS (As := [.ref h1, .int 16]) (rest := []) kx (c_X7_isStill_16 l G (upd F153 25 r155) h1) q_807 q_805 q_36 q_806 nX7_isStill ⟨Nat.le_of_ble_eq_true rfl, Nat.le_of_ble_eq_true rfl⟩ hK hP270 hD271 (kCtx_places _ _ [1] rfl rfl) rfl hl265.1 (Nat.le_of_ble_eq_true rfl) dX7_tick_131 ⟨Nat.zero_le _, Nat.zero_le _⟩) hP270 hD271 hS269 hA (kCtx_places _ _ [1] rfl rfl) (fun _ => rfl) (fun r167 _ H295 locs295 hw hP295 hD295 hS295 => ?_)
                have hr167 : r_X7_isStill_16 (upd F153 25 r155) = r167 := (show r167 = r_X7_isStill_16 (upd F153 25 r155) from hw).symm
                have hP296 : va_P G.1 vwCl ([(h0, .inr (7, cM F152 q1 q2 q3 q4 q5 q6 q7 q8 q9 q10 q11 sd)), (h1, .inl (G.2.1, 55, .inl (upd F153 25 r155)))]) H295 := hP295
                have hD297 : va_D A ([(h0, .inr (7, cM F152 q1 q2 q3 q4 q5 q6 q7 q8 q9 q10 q11 sd)), (h1, .inl (G.2.1, 55, .inl (upd F153 25 r155)))]) := hD295
                refine lv_if_ne (x := r167) (tgt := 143) hx hb dX7_tick_134 (by decide) (fun (c168 : ¬ (r167 = 0)) => ?_) (fun (c168 : r167 = 0) => ?_)
                · skip
                  refine lv_iinc (v := 2) (lv' := [(2, .int 2), (3, .int 16), (0, .ref h0), (1, .ref h1)]) hx hb dX7_tick_143 hl265 (k := 3) rfl (by decide +kernel) (by decide) rfl (fun ls298 hl298 => ?_)
                  refine lv_goto (tgt := 82) hx hb dX7_tick_146 (by decide) ?_
                  refine lv_iload_n hx hb dX7_tick_82 rfl (lv_at hl298 0 rfl) ?_
                  refine lv_iconst (v := 2) hx hb dX7_tick_83 (by decide) ?_
                  refine lv_icmp_ge (x := 2) (y := 2) (tgt := 149) hx hb dX7_tick_84 (by decide) (fun (c169 : 2 ≤ 2) => ?_) (fun (c169 : ¬ (2 ≤ 2)) => absurd (by decide) c169)
                  refine lv_aload_n hx hb dX7_tick_149 rfl (lv_at hl298 3 rfl) ?_
                  refine lv_bipush (v := 54) hx hb dX7_tick_150 (by decide) ?_
                  refine lv_dup2_11 hx hb dX7_tick_152 rfl rfl ?_
                  refine k_iald (v := (F153 54)) kx hK hP296 1 rfl 54 rfl (by decide) (by decide) rfl dX7_tick_153 ?_
                  refine lv_aload_n hx hb dX7_tick_154 rfl (lv_at hl298 3 rfl) ?_
                  refine lv_iconst (v := 5) hx hb dX7_tick_155 (by decide) ?_
                  refine k_iald (v := (F153 5)) kx hK hP296 1 rfl 5 rfl (by decide) (by decide) rfl dX7_tick_156 ?_
                  refine lv_iconst (v := 2) hx hb dX7_tick_157 (by decide) ?_
                  refine lv_icmp_ne (x := F153 5) (y := 2) (tgt := 173) hx hb dX7_tick_158 (by decide) (fun (c170 : ¬ (F153 5 = 2)) => ?_) (fun (c170 : F153 5 = 2) => ?_)
                  · skip
                    refine lv_iconst (v := 0) hx hb dX7_tick_173 (by decide) ?_
                    refine lv_iadd hx hb dX7_tick_174 ?_
                    refine k_iast kx hK hP296 hD297 hS295 1 rfl 54 rfl (by decide) (by decide) dX7_tick_175 (fun H299 locs299 hP299 hD299 hS299 => ?_)
                    have hP300 : va_P G.1 vwCl ([(h0, .inr (7, cM F152 q1 q2 q3 q4 q5 q6 q7 q8 q9 q10 q11 sd)), (h1, .inl (G.2.1, 55, .inl (upd (upd F153 25 r155) 54 ((F153 54) + 0))))]) H299 := hP299
                    have hD301 : va_D A ([(h0, .inr (7, cM F152 q1 q2 q3 q4 q5 q6 q7 q8 q9 q10 q11 sd)), (h1, .inl (G.2.1, 55, .inl (upd (upd F153 25 r155) 54 ((F153 54) + 0))))]) := hD299
                    have e0 : s_X7_tick_Z Z f = F152 := by rw [s_X7_tick_Z]; (try rw [hF2]); (try rw [hF3]); (try rw [hF5]); (try rw [hF6]); (try rw [hF14]); (try rw [hr56]); (try rw [hr97]); (try rw [hF152]); (try rw [hF153]); (try rw [hr155]); (try rw [hr167]); rw [if_neg c16, if_pos c57, if_neg c98, if_neg c156, if_pos c163, if_neg c168, if_neg c170]
                    have e1 : s_X7_tick_f Z f = upd (upd F153 25 r155) 54 ((F153 54) + 0) := by rw [s_X7_tick_f]; (try rw [hF2]); (try rw [hF3]); (try rw [hF5]); (try rw [hF6]); (try rw [hF14]); (try rw [hr56]); (try rw [hr97]); (try rw [hF152]); (try rw [hF153]); (try rw [hr155]); (try rw [hr167]); rw [if_neg c16, if_pos c57, if_neg c98, if_neg c156, if_pos c163, if_neg c168, if_neg c170]
                    exact k_vret kx hK hP300 hD301 hS299 (u := (F152, upd (upd F153 25 r155) 54 ((F153 54) + 0))) rfl ⟨e0.symm, e1.symm⟩ dX7_tick_176
                  · skip
                    refine lv_aload_n hx hb dX7_tick_161 rfl (lv_at hl298 3 rfl) ?_
                    refine lv_bipush (v := 21) hx hb dX7_tick_162 (by decide) ?_
                    refine k_iald (v := (F153 21)) kx hK hP296 1 rfl 21 rfl (by decide) (by decide) rfl dX7_tick_164 ?_
                    refine lv_iconst (v := 2) hx hb dX7_tick_165 (by decide) ?_
                    refine lv_icmp_ne (x := F153 21) (y := 2) (tgt := 173) hx hb dX7_tick_166 (by decide) (fun (c171 : ¬ (F153 21 = 2)) => ?_) (fun (c171 : F153 21 = 2) => ?_)
                    · skip
                      refine lv_iconst (v := 0) hx hb dX7_tick_173 (by decide) ?_
                      refine lv_iadd hx hb dX7_tick_174 ?_
                      refine k_iast kx hK hP296 hD297 hS295 1 rfl 54 rfl (by decide) (by decide) dX7_tick_175 (fun H302 locs302 hP302 hD302 hS302 => ?_)
                      have hP303 : va_P G.1 vwCl ([(h0, .inr (7, cM F152 q1 q2 q3 q4 q5 q6 q7 q8 q9 q10 q11 sd)), (h1, .inl (G.2.1, 55, .inl (upd (upd F153 25 r155) 54 ((F153 54) + 0))))]) H302 := hP302
                      have hD304 : va_D A ([(h0, .inr (7, cM F152 q1 q2 q3 q4 q5 q6 q7 q8 q9 q10 q11 sd)), (h1, .inl (G.2.1, 55, .inl (upd (upd F153 25 r155) 54 ((F153 54) + 0))))]) := hD302
                      have e0 : s_X7_tick_Z Z f = F152 := by rw [s_X7_tick_Z]; (try rw [hF2]); (try rw [hF3]); (try rw [hF5]); (try rw [hF6]); (try rw [hF14]); (try rw [hr56]); (try rw [hr97]); (try rw [hF152]); (try rw [hF153]); (try rw [hr155]); (try rw [hr167]); rw [if_neg c16, if_pos c57, if_neg c98, if_neg c156, if_pos c163, if_neg c168, if_pos c170, if_neg c171]
                      have e1 : s_X7_tick_f Z f = upd (upd F153 25 r155) 54 ((F153 54) + 0) := by rw [s_X7_tick_f]; (try rw [hF2]); (try rw [hF3]); (try rw [hF5]); (try rw [hF6]); (try rw [hF14]); (try rw [hr56]); (try rw [hr97]); (try rw [hF152]); (try rw [hF153]); (try rw [hr155]); (try rw [hr167]); rw [if_neg c16, if_pos c57, if_neg c98, if_neg c156, if_pos c163, if_neg c168, if_pos c170, if_neg c171]
                      exact k_vret kx hK hP303 hD304 hS302 (u := (F152, upd (upd F153 25 r155) 54 ((F153 54) + 0))) rfl ⟨e0.symm, e1.symm⟩ dX7_tick_176
                    · skip
                      refine lv_iconst (v := 1) hx hb dX7_tick_169 (by decide) ?_
                      refine lv_goto (tgt := 174) hx hb dX7_tick_170 (by decide) ?_
                      refine lv_iadd hx hb dX7_tick_174 ?_
                      refine k_iast kx hK hP296 hD297 hS295 1 rfl 54 rfl (by decide) (by decide) dX7_tick_175 (fun H305 locs305 hP305 hD305 hS305 => ?_)
                      have hP306 : va_P G.1 vwCl ([(h0, .inr (7, cM F152 q1 q2 q3 q4 q5 q6 q7 q8 q9 q10 q11 sd)), (h1, .inl (G.2.1, 55, .inl (upd (upd F153 25 r155) 54 ((F153 54) + 1))))]) H305 := hP305
                      have hD307 : va_D A ([(h0, .inr (7, cM F152 q1 q2 q3 q4 q5 q6 q7 q8 q9 q10 q11 sd)), (h1, .inl (G.2.1, 55, .inl (upd (upd F153 25 r155) 54 ((F153 54) + 1))))]) := hD305
                      have e0 : s_X7_tick_Z Z f = F152 := by rw [s_X7_tick_Z]; (try rw [hF2]); (try rw [hF3]); (try rw [hF5]); (try rw [hF6]); (try rw [hF14]); (try rw [hr56]); (try rw [hr97]); (try rw [hF152]); (try rw [hF153]); (try rw [hr155]); (try rw [hr167]); rw [if_neg c16, if_pos c57, if_neg c98, if_neg c156, if_pos c163, if_neg c168, if_pos c170, if_pos c171]
                      have e1 : s_X7_tick_f Z f = upd (upd F153 25 r155) 54 ((F153 54) + 1) := by rw [s_X7_tick_f]; (try rw [hF2]); (try rw [hF3]); (try rw [hF5]); (try rw [hF6]); (try rw [hF14]); (try rw [hr56]); (try rw [hr97]); (try rw [hF152]); (try rw [hF153]); (try rw [hr155]); (try rw [hr167]); rw [if_neg c16, if_pos c57, if_neg c98, if_neg c156, if_pos c163, if_neg c168, if_pos c170, if_pos c171]
                      exact k_vret kx hK hP306 hD307 hS305 (u := (F152, upd (upd F153 25 r155) 54 ((F153 54) + 1))) rfl ⟨e0.symm, e1.symm⟩ dX7_tick_176
                · skip
                  refine lv_aload_n hx hb dX7_tick_137 rfl (lv_at hl265 1 rfl) ?_
                  refine lv_aload_n hx hb dX7_tick_138 rfl (lv_at hl265 2 rfl) ?_
                  refine lv_iload_n hx hb dX7_tick_139 rfl (lv_at hl265 3 rfl) ?_
                  refine k_callv (kRunV (As := [.ref h1, .int 1]) (rest := []) kx (c_X7_sendOn_1 l G F152 sd h0 q1 q2 q3 q4 q5 q6 q7 q8 q9 q10 q11 (upd F153 25 r155) h1) q_811 q_808 q_36 q_810 q_20 nX7_sendOn ⟨Nat.le_of_ble_eq_true rfl, Nat.le_of_ble_eq_true rfl⟩ hK hP296 hD297 (kCtx_all _) 0 7 rfl rfl rfl rfl hl265.1 (Nat.le_of_ble_eq_true rfl) dX7_tick_140 ⟨Nat.zero_le _, Nat.zero_le _⟩) hP296 hD297 hS295 hA (kCtx_all _) (fun _ => rfl) (fun u H308 locs308 hw hP308 hD308 hS308 => ?_)
                  obtain ⟨F173, F174⟩ := u
                  obtain ⟨hF173, hF174⟩ := hw
                  have hF173 : s_X7_sendOn_1_Z F152 = F173 := (show F173 = s_X7_sendOn_1_Z F152 from hF173).symm
                  have hF174 : s_X7_sendOn_1_f F152 (upd F153 25 r155) = F174 := (show F174 = s_X7_sendOn_1_f F152 (upd F153 25 r155) from hF174).symm
                  have hP309 : va_P G.1 vwCl ([(h0, .inr (7, cM F173 q1 q2 q3 q4 q5 q6 q7 q8 q9 q10 q11 sd)), (h1, .inl (G.2.1, 55, .inl F174))]) H308 := hP308
                  have hD310 : va_D A ([(h0, .inr (7, cM F173 q1 q2 q3 q4 q5 q6 q7 q8 q9 q10 q11 sd)), (h1, .inl (G.2.1, 55, .inl F174))]) := hD308
                  refine lv_iinc (v := 2) (lv' := [(2, .int 2), (3, .int 16), (0, .ref h0), (1, .ref h1)]) hx hb dX7_tick_143 hl265 (k := 3) rfl (by decide +kernel) (by decide) rfl (fun ls311 hl311 => ?_)
                  refine lv_goto (tgt := 82) hx hb dX7_tick_146 (by decide) ?_
                  refine lv_iload_n hx hb dX7_tick_82 rfl (lv_at hl311 0 rfl) ?_
                  refine lv_iconst (v := 2) hx hb dX7_tick_83 (by decide) ?_
                  refine lv_icmp_ge (x := 2) (y := 2) (tgt := 149) hx hb dX7_tick_84 (by decide) (fun (c175 : 2 ≤ 2) => ?_) (fun (c175 : ¬ (2 ≤ 2)) => absurd (by decide) c175)
                  refine lv_aload_n hx hb dX7_tick_149 rfl (lv_at hl311 3 rfl) ?_
                  refine lv_bipush (v := 54) hx hb dX7_tick_150 (by decide) ?_
                  refine lv_dup2_11 hx hb dX7_tick_152 rfl rfl ?_
                  refine k_iald (v := (F174 54)) kx hK hP309 1 rfl 54 rfl (by decide) (by decide) rfl dX7_tick_153 ?_
                  refine lv_aload_n hx hb dX7_tick_154 rfl (lv_at hl311 3 rfl) ?_
                  refine lv_iconst (v := 5) hx hb dX7_tick_155 (by decide) ?_
                  refine k_iald (v := (F174 5)) kx hK hP309 1 rfl 5 rfl (by decide) (by decide) rfl dX7_tick_156 ?_
                  refine lv_iconst (v := 2) hx hb dX7_tick_157 (by decide) ?_
                  refine lv_icmp_ne (x := F174 5) (y := 2) (tgt := 173) hx hb dX7_tick_158 (by decide) (fun (c176 : ¬ (F174 5 = 2)) => ?_) (fun (c176 : F174 5 = 2) => ?_)
                  · skip
                    refine lv_iconst (v := 0) hx hb dX7_tick_173 (by decide) ?_
                    refine lv_iadd hx hb dX7_tick_174 ?_
                    refine k_iast kx hK hP309 hD310 hS308 1 rfl 54 rfl (by decide) (by decide) dX7_tick_175 (fun H312 locs312 hP312 hD312 hS312 => ?_)
                    have hP313 : va_P G.1 vwCl ([(h0, .inr (7, cM F173 q1 q2 q3 q4 q5 q6 q7 q8 q9 q10 q11 sd)), (h1, .inl (G.2.1, 55, .inl (upd F174 54 ((F174 54) + 0))))]) H312 := hP312
                    have hD314 : va_D A ([(h0, .inr (7, cM F173 q1 q2 q3 q4 q5 q6 q7 q8 q9 q10 q11 sd)), (h1, .inl (G.2.1, 55, .inl (upd F174 54 ((F174 54) + 0))))]) := hD312
                    have e0 : s_X7_tick_Z Z f = F173 := by rw [s_X7_tick_Z]; (try rw [hF2]); (try rw [hF3]); (try rw [hF5]); (try rw [hF6]); (try rw [hF14]); (try rw [hr56]); (try rw [hr97]); (try rw [hF152]); (try rw [hF153]); (try rw [hr155]); (try rw [hr167]); (try rw [hF173]); (try rw [hF174]); rw [if_neg c16, if_pos c57, if_neg c98, if_neg c156, if_pos c163, if_pos c168, if_neg c176]
                    have e1 : s_X7_tick_f Z f = upd F174 54 ((F174 54) + 0) := by rw [s_X7_tick_f]; (try rw [hF2]); (try rw [hF3]); (try rw [hF5]); (try rw [hF6]); (try rw [hF14]); (try rw [hr56]); (try rw [hr97]); (try rw [hF152]); (try rw [hF153]); (try rw [hr155]); (try rw [hr167]); (try rw [hF173]); (try rw [hF174]); rw [if_neg c16, if_pos c57, if_neg c98, if_neg c156, if_pos c163, if_pos c168, if_neg c176]
                    exact k_vret kx hK hP313 hD314 hS312 (u := (F173, upd F174 54 ((F174 54) + 0))) rfl ⟨e0.symm, e1.symm⟩ dX7_tick_176
                  · skip
                    refine lv_aload_n hx hb dX7_tick_161 rfl (lv_at hl311 3 rfl) ?_
                    refine lv_bipush (v := 21) hx hb dX7_tick_162 (by decide) ?_
                    refine k_iald (v := (F174 21)) kx hK hP309 1 rfl 21 rfl (by decide) (by decide) rfl dX7_tick_164 ?_
                    refine lv_iconst (v := 2) hx hb dX7_tick_165 (by decide) ?_
                    refine lv_icmp_ne (x := F174 21) (y := 2) (tgt := 173) hx hb dX7_tick_166 (by decide) (fun (c177 : ¬ (F174 21 = 2)) => ?_) (fun (c177 : F174 21 = 2) => ?_)
                    · skip
                      refine lv_iconst (v := 0) hx hb dX7_tick_173 (by decide) ?_
                      refine lv_iadd hx hb dX7_tick_174 ?_
                      refine k_iast kx hK hP309 hD310 hS308 1 rfl 54 rfl (by decide) (by decide) dX7_tick_175 (fun H315 locs315 hP315 hD315 hS315 => ?_)
                      have hP316 : va_P G.1 vwCl ([(h0, .inr (7, cM F173 q1 q2 q3 q4 q5 q6 q7 q8 q9 q10 q11 sd)), (h1, .inl (G.2.1, 55, .inl (upd F174 54 ((F174 54) + 0))))]) H315 := hP315
                      have hD317 : va_D A ([(h0, .inr (7, cM F173 q1 q2 q3 q4 q5 q6 q7 q8 q9 q10 q11 sd)), (h1, .inl (G.2.1, 55, .inl (upd F174 54 ((F174 54) + 0))))]) := hD315
                      have e0 : s_X7_tick_Z Z f = F173 := by rw [s_X7_tick_Z]; (try rw [hF2]); (try rw [hF3]); (try rw [hF5]); (try rw [hF6]); (try rw [hF14]); (try rw [hr56]); (try rw [hr97]); (try rw [hF152]); (try rw [hF153]); (try rw [hr155]); (try rw [hr167]); (try rw [hF173]); (try rw [hF174]); rw [if_neg c16, if_pos c57, if_neg c98, if_neg c156, if_pos c163, if_pos c168, if_pos c176, if_neg c177]
                      have e1 : s_X7_tick_f Z f = upd F174 54 ((F174 54) + 0) := by rw [s_X7_tick_f]; (try rw [hF2]); (try rw [hF3]); (try rw [hF5]); (try rw [hF6]); (try rw [hF14]); (try rw [hr56]); (try rw [hr97]); (try rw [hF152]); (try rw [hF153]); (try rw [hr155]); (try rw [hr167]); (try rw [hF173]); (try rw [hF174]); rw [if_neg c16, if_pos c57, if_neg c98, if_neg c156, if_pos c163, if_pos c168, if_pos c176, if_neg c177]
                      exact k_vret kx hK hP316 hD317 hS315 (u := (F173, upd F174 54 ((F174 54) + 0))) rfl ⟨e0.symm, e1.symm⟩ dX7_tick_176
                    · skip
                      refine lv_iconst (v := 1) hx hb dX7_tick_169 (by decide) ?_
                      refine lv_goto (tgt := 174) hx hb dX7_tick_170 (by decide) ?_
                      refine lv_iadd hx hb dX7_tick_174 ?_
                      refine k_iast kx hK hP309 hD310 hS308 1 rfl 54 rfl (by decide) (by decide) dX7_tick_175 (fun H318 locs318 hP318 hD318 hS318 => ?_)
                      have hP319 : va_P G.1 vwCl ([(h0, .inr (7, cM F173 q1 q2 q3 q4 q5 q6 q7 q8 q9 q10 q11 sd)), (h1, .inl (G.2.1, 55, .inl (upd F174 54 ((F174 54) + 1))))]) H318 := hP318
                      have hD320 : va_D A ([(h0, .inr (7, cM F173 q1 q2 q3 q4 q5 q6 q7 q8 q9 q10 q11 sd)), (h1, .inl (G.2.1, 55, .inl (upd F174 54 ((F174 54) + 1))))]) := hD318
                      have e0 : s_X7_tick_Z Z f = F173 := by rw [s_X7_tick_Z]; (try rw [hF2]); (try rw [hF3]); (try rw [hF5]); (try rw [hF6]); (try rw [hF14]); (try rw [hr56]); (try rw [hr97]); (try rw [hF152]); (try rw [hF153]); (try rw [hr155]); (try rw [hr167]); (try rw [hF173]); (try rw [hF174]); rw [if_neg c16, if_pos c57, if_neg c98, if_neg c156, if_pos c163, if_pos c168, if_pos c176, if_pos c177]
                      have e1 : s_X7_tick_f Z f = upd F174 54 ((F174 54) + 1) := by rw [s_X7_tick_f]; (try rw [hF2]); (try rw [hF3]); (try rw [hF5]); (try rw [hF6]); (try rw [hF14]); (try rw [hr56]); (try rw [hr97]); (try rw [hF152]); (try rw [hF153]); (try rw [hr155]); (try rw [hr167]); (try rw [hF173]); (try rw [hF174]); rw [if_neg c16, if_pos c57, if_neg c98, if_neg c156, if_pos c163, if_pos c168, if_pos c176, if_pos c177]
                      exact k_vret kx hK hP319 hD320 hS318 (u := (F173, upd F174 54 ((F174 54) + 1))) rfl ⟨e0.symm, e1.symm⟩ dX7_tick_176
          refine lv_iload_n hx hb dX7_tick_82 rfl (lv_at hl263 0 rfl) ?_
          refine lv_iconst (v := 2) hx hb dX7_tick_83 (by decide) ?_
          refine lv_icmp_ge (x := 0) (y := 2) (tgt := 149) hx hb dX7_tick_84 (by decide) (fun (c140 : 2 ≤ 0) => absurd c140 (by decide)) (fun (c140 : ¬ (2 ≤ 0)) => ?_)
          refine lv_bipush (v := 16) hx hb dX7_tick_87 (by decide) ?_
          refine lv_iload_n hx hb dX7_tick_89 rfl (lv_at hl263 0 rfl) ?_
          refine lv_imul hx hb dX7_tick_90 ?_
          refine k_top (y := 0) (by decide +kernel) ?_
          refine lv_istore_n (lv' := [(3, .int 0), (2, .int 0), (0, .ref h0), (1, .ref h1)]) hx hb dX7_tick_91 rfl hl263 (by decide) rfl (fun ls321 hl321 => ?_)
          refine lv_aload_n hx hb dX7_tick_92 rfl (lv_at hl321 3 rfl) ?_
          refine lv_iload_n hx hb dX7_tick_93 rfl (lv_at hl321 0 rfl) ?_
          refine lv_bipush (v := 9) hx hb dX7_tick_94 (by decide) ?_
          refine lv_iadd hx hb dX7_tick_96 ?_
          refine k_top (y := 9) (by decide +kernel) ?_
          refine lv_aload_n hx hb dX7_tick_97 rfl (lv_at hl321 3 rfl) ?_
          refine lv_iload_n hx hb dX7_tick_98 rfl (lv_at hl321 0 rfl) ?_
          refine lv_bipush (v := 9) hx hb dX7_tick_99 (by decide) ?_
          refine lv_iadd hx hb dX7_tick_101 ?_
          refine k_top (y := 9) (by decide +kernel) ?_
          refine k_iald (v := (F14 9)) kx hK hP260 1 rfl 9 rfl (by decide) (by decide) rfl dX7_tick_102 ?_
          refine lv_iconst (v := 1) hx hb dX7_tick_103 (by decide) ?_
          refine lv_isub hx hb dX7_tick_104 ?_
          refine lv_iconst (v := 0) hx hb dX7_tick_105 (by decide) ?_
          refine k_calli (kRunS (As := [.int ((F14 9) - 1), .int 0]) (rest := [.int 9, .ref h1]) kx (c_X7_max l G ((F14 9) - 1) 0) q_804 q_802 q_36 q_803 nX7_max ⟨Nat.le_of_ble_eq_true rfl, Nat.le_of_ble_eq_true rfl⟩ hK hP260 hD261 (kCtx_nil _) rfl hl321.1 (Nat.le_of_ble_eq_true rfl) dX7_tick_106 ⟨Nat.zero_le _, Nat.zero_le _⟩) hP260 hD261 hS259 hA (kCtx_nil _) (fun _ => rfl) (fun r141 _ H322 locs322 hw hP322 hD322 hS322 => ?_)
          have hr141 : r_X7_max ((F14 9) - 1) 0 = r141 := (show r141 = r_X7_max ((F14 9) - 1) 0 from hw).symm
          have hP323 : va_P G.1 vwCl ([(h0, .inr (7, cM F5 q1 q2 q3 q4 q5 q6 q7 q8 q9 q10 q11 sd)), (h1, .inl (G.2.1, 55, .inl (upd (upd (upd (upd (upd F14 21 0) 22 0) 19 (F14 16)) 20 (F14 17)) 27 0)))]) H322 := hP322
          have hD324 : va_D A ([(h0, .inr (7, cM F5 q1 q2 q3 q4 q5 q6 q7 q8 q9 q10 q11 sd)), (h1, .inl (G.2.1, 55, .inl (upd (upd (upd (upd (upd F14 21 0) 22 0) 19 (F14 16)) 20 (F14 17)) 27 0)))]) := hD322
          refine k_iast kx hK hP323 hD324 hS322 1 rfl 9 rfl (by decide) (by decide) dX7_tick_109 (fun H325 locs325 hP325 hD325 hS325 => ?_)
          have hP326 : va_P G.1 vwCl ([(h0, .inr (7, cM F5 q1 q2 q3 q4 q5 q6 q7 q8 q9 q10 q11 sd)), (h1, .inl (G.2.1, 55, .inl (upd (upd (upd (upd (upd (upd F14 21 0) 22 0) 19 (F14 16)) 20 (F14 17)) 27 0) 9 r141)))]) H325 := hP325
          have hD327 : va_D A ([(h0, .inr (7, cM F5 q1 q2 q3 q4 q5 q6 q7 q8 q9 q10 q11 sd)), (h1, .inl (G.2.1, 55, .inl (upd (upd (upd (upd (upd (upd F14 21 0) 22 0) 19 (F14 16)) 20 (F14 17)) 27 0) 9 r141)))]) := hD325
          refine lv_aload_n hx hb dX7_tick_110 rfl (lv_at hl321 3 rfl) ?_
          refine lv_iload_n hx hb dX7_tick_111 rfl (lv_at hl321 0 rfl) ?_
          refine lv_bipush (v := 10) hx hb dX7_tick_112 (by decide) ?_
          refine lv_iadd hx hb dX7_tick_114 ?_
          refine k_top (y := 10) (by decide +kernel) ?_
          refine k_iald (v := (F14 10)) kx hK hP326 1 rfl 10 rfl (by decide) (by decide) rfl dX7_tick_115 ?_
          refine lv_iconst (v := 1) hx hb dX7_tick_116 (by decide) ?_
          refine lv_icmp_eq (x := F14 10) (y := 1) (tgt := 137) hx hb dX7_tick_117 (by decide) (fun (c142 : F14 10 = 1) => ?_) (fun (c142 : ¬ (F14 10 = 1)) => ?_)
          · skip
            refine lv_aload_n hx hb dX7_tick_137 rfl (lv_at hl321 2 rfl) ?_
            refine lv_aload_n hx hb dX7_tick_138 rfl (lv_at hl321 3 rfl) ?_
            refine lv_iload_n hx hb dX7_tick_139 rfl (lv_at hl321 1 rfl) ?_
            refine k_callv (kRunV (As := [.ref h1, .int 0]) (rest := []) kx (c_X7_sendOn_0 l G F5 sd h0 q1 q2 q3 q4 q5 q6 q7 q8 q9 q10 q11 (upd (upd (upd (upd (upd (upd F14 21 0) 22 0) 19 (F14 16)) 20 (F14 17)) 27 0) 9 r141) h1) q_811 q_808 q_36 q_810 q_20 nX7_sendOn ⟨Nat.le_of_ble_eq_true rfl, Nat.le_of_ble_eq_true rfl⟩ hK hP326 hD327 (kCtx_all _) 0 7 rfl rfl rfl rfl hl321.1 (Nat.le_of_ble_eq_true rfl) dX7_tick_140 ⟨Nat.zero_le _, Nat.zero_le _⟩) hP326 hD327 hS325 hA (kCtx_all _) (fun _ => rfl) (fun u H328 locs328 hw hP328 hD328 hS328 => ?_)
            obtain ⟨F144, F145⟩ := u
            obtain ⟨hF144, hF145⟩ := hw
            have hF144 : s_X7_sendOn_0_Z F5 = F144 := (show F144 = s_X7_sendOn_0_Z F5 from hF144).symm
            have hF145 : s_X7_sendOn_0_f F5 (upd (upd (upd (upd (upd (upd F14 21 0) 22 0) 19 (F14 16)) 20 (F14 17)) 27 0) 9 r141) = F145 := (show F145 = s_X7_sendOn_0_f F5 (upd (upd (upd (upd (upd (upd F14 21 0) 22 0) 19 (F14 16)) 20 (F14 17)) 27 0) 9 r141) from hF145).symm
            have hP329 : va_P G.1 vwCl ([(h0, .inr (7, cM F144 q1 q2 q3 q4 q5 q6 q7 q8 q9 q10 q11 sd)), (h1, .inl (G.2.1, 55, .inl F145))]) H328 := hP328
            have hD330 : va_D A ([(h0, .inr (7, cM F144 q1 q2 q3 q4 q5 q6 q7 q8 q9 q10 q11 sd)), (h1, .inl (G.2.1, 55, .inl F145))]) := hD328
            refine lv_iinc (v := 1) (lv' := [(2, .int 1), (3, .int 0), (0, .ref h0), (1, .ref h1)]) hx hb dX7_tick_143 hl321 (k := 1) rfl (by decide +kernel) (by decide) rfl (fun ls331 hl331 => ?_)
            refine lv_goto (tgt := 82) hx hb dX7_tick_146 (by decide) ?_
            have e0 : t_X7_tick_5_Z F5 F14 = F144 := by rw [t_X7_tick_5_Z]; (try rw [hr141]); (try rw [hF144]); (try rw [hF145]); rw [if_pos c142]
            have e1 : t_X7_tick_5_f F5 F14 = F145 := by rw [t_X7_tick_5_f]; (try rw [hr141]); (try rw [hF144]); (try rw [hF145]); rw [if_pos c142]
            exact cut5 F144 F145 _ _ _ e0 e1 hP329 hD330 hS328 (lv_sub hl331 [2, 3, 0, 1] rfl)
          · skip
            refine lv_aload_n hx hb dX7_tick_120 rfl (lv_at hl321 3 rfl) ?_
            refine lv_iload_n hx hb dX7_tick_121 rfl (lv_at hl321 0 rfl) ?_
            refine lv_bipush (v := 9) hx hb dX7_tick_122 (by decide) ?_
            refine lv_iadd hx hb dX7_tick_124 ?_
            refine k_top (y := 9) (by decide +kernel) ?_
            refine k_iald (v := r141) kx hK hP326 1 rfl 9 rfl (by decide) (by decide) rfl dX7_tick_125 ?_
            refine lv_if_ne (x := r141) (tgt := 143) hx hb dX7_tick_126 (by decide) (fun (c146 : ¬ (r141 = 0)) => ?_) (fun (c146 : r141 = 0) => ?_)
            · skip
              refine lv_iinc (v := 1) (lv' := [(2, .int 1), (3, .int 0), (0, .ref h0), (1, .ref h1)]) hx hb dX7_tick_143 hl321 (k := 1) rfl (by decide +kernel) (by decide) rfl (fun ls332 hl332 => ?_)
              refine lv_goto (tgt := 82) hx hb dX7_tick_146 (by decide) ?_
              have e0 : t_X7_tick_5_Z F5 F14 = F5 := by rw [t_X7_tick_5_Z]; (try rw [hr141]); rw [if_neg c142, if_neg c146]
              have e1 : t_X7_tick_5_f F5 F14 = upd (upd (upd (upd (upd (upd F14 21 0) 22 0) 19 (F14 16)) 20 (F14 17)) 27 0) 9 r141 := by rw [t_X7_tick_5_f]; (try rw [hr141]); rw [if_neg c142, if_neg c146]
              exact cut5 F5 (upd (upd (upd (upd (upd (upd F14 21 0) 22 0) 19 (F14 16)) 20 (F14 17)) 27 0) 9 r141) _ _ _ e0 e1 hP326 hD327 hS325 (lv_sub hl332 [2, 3, 0, 1] rfl)
            · skip
              refine lv_aload_n hx hb dX7_tick_129 rfl (lv_at hl321 3 rfl) ?_
              refine lv_iload_n hx hb dX7_tick_130 rfl (lv_at hl321 0 rfl) ?_
              refine k_calli (kRunS (As := [.ref h1, .int 0]) (rest := []) kx (c_X7_isStill_0 l G (upd (upd (upd (upd (upd (upd F14 21 0) 22 0) 19 (F14 16)) 20 (F14 17)) 27 0) 9 r141) h1) q_807 q_805 q_36 q_806 nX7_isStill ⟨Nat.le_of_ble_eq_true rfl, Nat.le_of_ble_eq_true rfl⟩ hK hP326 hD327 (kCtx_places _ _ [1] rfl rfl) rfl hl321.1 (Nat.le_of_ble_eq_true rfl) dX7_tick_131 ⟨Nat.zero_le _, Nat.zero_le _⟩) hP326 hD327 hS325 hA (kCtx_places _ _ [1] rfl rfl) (fun _ => rfl) (fun r147 _ H333 locs333 hw hP333 hD333 hS333 => ?_)
              have hr147 : r_X7_isStill_0 (upd (upd (upd (upd (upd (upd F14 21 0) 22 0) 19 (F14 16)) 20 (F14 17)) 27 0) 9 r141) = r147 := (show r147 = r_X7_isStill_0 (upd (upd (upd (upd (upd (upd F14 21 0) 22 0) 19 (F14 16)) 20 (F14 17)) 27 0) 9 r141) from hw).symm
              have hP334 : va_P G.1 vwCl ([(h0, .inr (7, cM F5 q1 q2 q3 q4 q5 q6 q7 q8 q9 q10 q11 sd)), (h1, .inl (G.2.1, 55, .inl (upd (upd (upd (upd (upd (upd F14 21 0) 22 0) 19 (F14 16)) 20 (F14 17)) 27 0) 9 r141)))]) H333 := hP333
              have hD335 : va_D A ([(h0, .inr (7, cM F5 q1 q2 q3 q4 q5 q6 q7 q8 q9 q10 q11 sd)), (h1, .inl (G.2.1, 55, .inl (upd (upd (upd (upd (upd (upd F14 21 0) 22 0) 19 (F14 16)) 20 (F14 17)) 27 0) 9 r141)))]) := hD333
              refine lv_if_ne (x := r147) (tgt := 143) hx hb dX7_tick_134 (by decide) (fun (c148 : ¬ (r147 = 0)) => ?_) (fun (c148 : r147 = 0) => ?_)
              · skip
                refine lv_iinc (v := 1) (lv' := [(2, .int 1), (3, .int 0), (0, .ref h0), (1, .ref h1)]) hx hb dX7_tick_143 hl321 (k := 1) rfl (by decide +kernel) (by decide) rfl (fun ls336 hl336 => ?_)
                refine lv_goto (tgt := 82) hx hb dX7_tick_146 (by decide) ?_
                have e0 : t_X7_tick_5_Z F5 F14 = F5 := by rw [t_X7_tick_5_Z]; (try rw [hr141]); (try rw [hr147]); rw [if_neg c142, if_pos c146, if_neg c148]
                have e1 : t_X7_tick_5_f F5 F14 = upd (upd (upd (upd (upd (upd F14 21 0) 22 0) 19 (F14 16)) 20 (F14 17)) 27 0) 9 r141 := by rw [t_X7_tick_5_f]; (try rw [hr141]); (try rw [hr147]); rw [if_neg c142, if_pos c146, if_neg c148]
                exact cut5 F5 (upd (upd (upd (upd (upd (upd F14 21 0) 22 0) 19 (F14 16)) 20 (F14 17)) 27 0) 9 r141) _ _ _ e0 e1 hP334 hD335 hS333 (lv_sub hl336 [2, 3, 0, 1] rfl)
              · skip
                refine lv_aload_n hx hb dX7_tick_137 rfl (lv_at hl321 2 rfl) ?_
                refine lv_aload_n hx hb dX7_tick_138 rfl (lv_at hl321 3 rfl) ?_
                refine lv_iload_n hx hb dX7_tick_139 rfl (lv_at hl321 1 rfl) ?_
                refine k_callv (kRunV (As := [.ref h1, .int 0]) (rest := []) kx (c_X7_sendOn_0 l G F5 sd h0 q1 q2 q3 q4 q5 q6 q7 q8 q9 q10 q11 (upd (upd (upd (upd (upd (upd F14 21 0) 22 0) 19 (F14 16)) 20 (F14 17)) 27 0) 9 r141) h1) q_811 q_808 q_36 q_810 q_20 nX7_sendOn ⟨Nat.le_of_ble_eq_true rfl, Nat.le_of_ble_eq_true rfl⟩ hK hP334 hD335 (kCtx_all _) 0 7 rfl rfl rfl rfl hl321.1 (Nat.le_of_ble_eq_true rfl) dX7_tick_140 ⟨Nat.zero_le _, Nat.zero_le _⟩) hP334 hD335 hS333 hA (kCtx_all _) (fun _ => rfl) (fun u H337 locs337 hw hP337 hD337 hS337 => ?_)
                obtain ⟨F150, F151⟩ := u
                obtain ⟨hF150, hF151⟩ := hw
                have hF150 : s_X7_sendOn_0_Z F5 = F150 := (show F150 = s_X7_sendOn_0_Z F5 from hF150).symm
                have hF151 : s_X7_sendOn_0_f F5 (upd (upd (upd (upd (upd (upd F14 21 0) 22 0) 19 (F14 16)) 20 (F14 17)) 27 0) 9 r141) = F151 := (show F151 = s_X7_sendOn_0_f F5 (upd (upd (upd (upd (upd (upd F14 21 0) 22 0) 19 (F14 16)) 20 (F14 17)) 27 0) 9 r141) from hF151).symm
                have hP338 : va_P G.1 vwCl ([(h0, .inr (7, cM F150 q1 q2 q3 q4 q5 q6 q7 q8 q9 q10 q11 sd)), (h1, .inl (G.2.1, 55, .inl F151))]) H337 := hP337
                have hD339 : va_D A ([(h0, .inr (7, cM F150 q1 q2 q3 q4 q5 q6 q7 q8 q9 q10 q11 sd)), (h1, .inl (G.2.1, 55, .inl F151))]) := hD337
                refine lv_iinc (v := 1) (lv' := [(2, .int 1), (3, .int 0), (0, .ref h0), (1, .ref h1)]) hx hb dX7_tick_143 hl321 (k := 1) rfl (by decide +kernel) (by decide) rfl (fun ls340 hl340 => ?_)
                refine lv_goto (tgt := 82) hx hb dX7_tick_146 (by decide) ?_
                have e0 : t_X7_tick_5_Z F5 F14 = F150 := by rw [t_X7_tick_5_Z]; (try rw [hr141]); (try rw [hr147]); (try rw [hF150]); (try rw [hF151]); rw [if_neg c142, if_pos c146, if_pos c148]
                have e1 : t_X7_tick_5_f F5 F14 = F151 := by rw [t_X7_tick_5_f]; (try rw [hr141]); (try rw [hr147]); (try rw [hF150]); (try rw [hF151]); rw [if_neg c142, if_pos c146, if_pos c148]
                exact cut5 F150 F151 _ _ _ e0 e1 hP338 hD339 hS337 (lv_sub hl340 [2, 3, 0, 1] rfl)
  refine lv_iload_n hx hb dX7_tick_22 rfl (lv_at hl10 0 rfl) ?_
  refine lv_iconst (v := 2) hx hb dX7_tick_23 (by decide) ?_
  refine lv_icmp_ge (x := 0) (y := 2) (tgt := 80) hx hb dX7_tick_24 (by decide) (fun (c7 : 2 ≤ 0) => absurd c7 (by decide)) (fun (c7 : ¬ (2 ≤ 0)) => ?_)
  refine lv_bipush (v := 16) hx hb dX7_tick_27 (by decide) ?_
  refine lv_iload_n hx hb dX7_tick_29 rfl (lv_at hl10 0 rfl) ?_
  refine lv_imul hx hb dX7_tick_30 ?_
  refine k_top (y := 0) (by decide +kernel) ?_
  refine lv_istore_n (lv' := [(3, .int 0), (2, .int 0), (0, .ref h0), (1, .ref h1)]) hx hb dX7_tick_31 rfl hl10 (by decide) rfl (fun ls341 hl341 => ?_)
  refine lv_aload_n hx hb dX7_tick_32 rfl (lv_at hl341 3 rfl) ?_
  refine lv_iload_n hx hb dX7_tick_33 rfl (lv_at hl341 0 rfl) ?_
  refine lv_iconst (v := 5) hx hb dX7_tick_34 (by decide) ?_
  refine lv_iadd hx hb dX7_tick_35 ?_
  refine k_top (y := 5) (by decide +kernel) ?_
  refine k_iald (v := (F6 5)) kx hK hP8 1 rfl 5 rfl (by decide) (by decide) rfl dX7_tick_36 ?_
  refine lv_if_eq (x := F6 5) (tgt := 74) hx hb dX7_tick_37 (by decide) (fun (c8 : F6 5 = 0) => ?_) (fun (c8 : ¬ (F6 5 = 0)) => ?_)
  · skip
    refine lv_iinc (v := 1) (lv' := [(2, .int 1), (3, .int 0), (0, .ref h0), (1, .ref h1)]) hx hb dX7_tick_74 hl341 (k := 1) rfl (by decide +kernel) (by decide) rfl (fun ls342 hl342 => ?_)
    refine lv_goto (tgt := 22) hx hb dX7_tick_77 (by decide) ?_
    have e0 : t_X7_tick_1_f F6 = F6 := by rw [t_X7_tick_1_f, if_pos c8]
    exact cut1 F6 _ _ _ e0 hP8 hD9 hS7 (lv_sub hl342 [2, 3, 0, 1] rfl)
  · skip
    refine lv_aload_n hx hb dX7_tick_40 rfl (lv_at hl341 3 rfl) ?_
    refine lv_iload_n hx hb dX7_tick_41 rfl (lv_at hl341 0 rfl) ?_
    refine k_calli (kRunS (As := [.ref h1, .int 0]) (rest := []) kx (c_X7_trusts_0 l G F6 h1) q_795 q_793 q_36 q_794 nX7_trusts ⟨Nat.le_of_ble_eq_true rfl, Nat.le_of_ble_eq_true rfl⟩ hK hP8 hD9 (kCtx_places _ _ [1] rfl rfl) rfl hl341.1 (Nat.le_of_ble_eq_true rfl) dX7_tick_42 ⟨Nat.zero_le _, Nat.zero_le _⟩) hP8 hD9 hS7 hA (kCtx_places _ _ [1] rfl rfl) (fun _ => rfl) (fun r9 _ H343 locs343 hw hP343 hD343 hS343 => ?_)
    have hr9 : r_X7_trusts_0 F6 = r9 := (show r9 = r_X7_trusts_0 F6 from hw).symm
    have hP344 : va_P G.1 vwCl ([(h0, .inr (7, cM F5 q1 q2 q3 q4 q5 q6 q7 q8 q9 q10 q11 sd)), (h1, .inl (G.2.1, 55, .inl F6))]) H343 := hP343
    have hD345 : va_D A ([(h0, .inr (7, cM F5 q1 q2 q3 q4 q5 q6 q7 q8 q9 q10 q11 sd)), (h1, .inl (G.2.1, 55, .inl F6))]) := hD343
    refine lv_if_ne (x := r9) (tgt := 74) hx hb dX7_tick_45 (by decide) (fun (c10 : ¬ (r9 = 0)) => ?_) (fun (c10 : r9 = 0) => ?_)
    · skip
      refine lv_iinc (v := 1) (lv' := [(2, .int 1), (3, .int 0), (0, .ref h0), (1, .ref h1)]) hx hb dX7_tick_74 hl341 (k := 1) rfl (by decide +kernel) (by decide) rfl (fun ls346 hl346 => ?_)
      refine lv_goto (tgt := 22) hx hb dX7_tick_77 (by decide) ?_
      have e0 : t_X7_tick_1_f F6 = F6 := by rw [t_X7_tick_1_f]; (try rw [hr9]); rw [if_neg c8, if_neg c10]
      exact cut1 F6 _ _ _ e0 hP344 hD345 hS343 (lv_sub hl346 [2, 3, 0, 1] rfl)
    · skip
      refine lv_aload_n hx hb dX7_tick_48 rfl (lv_at hl341 3 rfl) ?_
      refine lv_iload_n hx hb dX7_tick_49 rfl (lv_at hl341 0 rfl) ?_
      refine lv_bipush (v := 8) hx hb dX7_tick_50 (by decide) ?_
      refine lv_iadd hx hb dX7_tick_52 ?_
      refine k_top (y := 8) (by decide +kernel) ?_
      refine k_iald (v := (F6 8)) kx hK hP344 1 rfl 8 rfl (by decide) (by decide) rfl dX7_tick_53 ?_
      refine lv_aload_n hx hb dX7_tick_54 rfl (lv_at hl341 3 rfl) ?_
      refine lv_iload_n hx hb dX7_tick_55 rfl (lv_at hl341 0 rfl) ?_
      refine k_calli (kRunS (As := [.ref h1, .int 0]) (rest := [.int (F6 8)]) kx (c_X7_limitOn_0 l G F6 h1) q_801 q_799 q_36 q_800 nX7_limitOn ⟨Nat.le_of_ble_eq_true rfl, Nat.le_of_ble_eq_true rfl⟩ hK hP344 hD345 (kCtx_places _ _ [1] rfl rfl) rfl hl341.1 (Nat.le_of_ble_eq_true rfl) dX7_tick_56 ⟨Nat.zero_le _, Nat.zero_le _⟩) hP344 hD345 hS343 hA (kCtx_places _ _ [1] rfl rfl) (fun _ => rfl) (fun r11 _ H347 locs347 hw hP347 hD347 hS347 => ?_)
      have hr11 : r_X7_limitOn_0 F6 = r11 := (show r11 = r_X7_limitOn_0 F6 from hw).symm
      have hP348 : va_P G.1 vwCl ([(h0, .inr (7, cM F5 q1 q2 q3 q4 q5 q6 q7 q8 q9 q10 q11 sd)), (h1, .inl (G.2.1, 55, .inl F6))]) H347 := hP347
      have hD349 : va_D A ([(h0, .inr (7, cM F5 q1 q2 q3 q4 q5 q6 q7 q8 q9 q10 q11 sd)), (h1, .inl (G.2.1, 55, .inl F6))]) := hD347
      refine lv_icmp_lt (x := F6 8) (y := r11) (tgt := 74) hx hb dX7_tick_59 (by decide) (fun (c12 : F6 8 < r11) => ?_) (fun (c12 : ¬ (F6 8 < r11)) => ?_)
      · skip
        refine lv_iinc (v := 1) (lv' := [(2, .int 1), (3, .int 0), (0, .ref h0), (1, .ref h1)]) hx hb dX7_tick_74 hl341 (k := 1) rfl (by decide +kernel) (by decide) rfl (fun ls350 hl350 => ?_)
        refine lv_goto (tgt := 22) hx hb dX7_tick_77 (by decide) ?_
        have e0 : t_X7_tick_1_f F6 = F6 := by rw [t_X7_tick_1_f]; (try rw [hr9]); (try rw [hr11]); rw [if_neg c8, if_pos c10, if_pos c12]
        exact cut1 F6 _ _ _ e0 hP348 hD349 hS347 (lv_sub hl350 [2, 3, 0, 1] rfl)
      · skip
        refine lv_aload_n hx hb dX7_tick_62 rfl (lv_at hl341 3 rfl) ?_
        refine lv_iload_n hx hb dX7_tick_63 rfl (lv_at hl341 0 rfl) ?_
        refine k_callv (kRunS (As := [.ref h1, .int 0]) (rest := []) kx (c_X7_fall_0 l G F6 h1) q_792 q_790 q_36 q_791 nX7_fall ⟨Nat.le_of_ble_eq_true rfl, Nat.le_of_ble_eq_true rfl⟩ hK hP348 hD349 (kCtx_places _ _ [1] rfl rfl) rfl hl341.1 (Nat.le_of_ble_eq_true rfl) dX7_tick_64 ⟨Nat.zero_le _, Nat.zero_le _⟩) hP348 hD349 hS347 hA (kCtx_places _ _ [1] rfl rfl) (fun _ => rfl) (fun _ H351 locs351 hw hP351 hD351 hS351 => ?_)
        have hP352 : va_P G.1 vwCl ([(h0, .inr (7, cM F5 q1 q2 q3 q4 q5 q6 q7 q8 q9 q10 q11 sd)), (h1, .inl (G.2.1, 55, .inl (upd (upd (upd (upd F6 5 0) 6 0) 3 (F6 0)) 4 (F6 1))))]) H351 := hP351
        have hD353 : va_D A ([(h0, .inr (7, cM F5 q1 q2 q3 q4 q5 q6 q7 q8 q9 q10 q11 sd)), (h1, .inl (G.2.1, 55, .inl (upd (upd (upd (upd F6 5 0) 6 0) 3 (F6 0)) 4 (F6 1))))]) := hD351
        refine lv_aload_n hx hb dX7_tick_67 rfl (lv_at hl341 3 rfl) ?_
        refine lv_iload_n hx hb dX7_tick_68 rfl (lv_at hl341 0 rfl) ?_
        refine lv_bipush (v := 11) hx hb dX7_tick_69 (by decide) ?_
        refine lv_iadd hx hb dX7_tick_71 ?_
        refine k_top (y := 11) (by decide +kernel) ?_
        refine lv_iconst (v := 0) hx hb dX7_tick_72 (by decide) ?_
        refine k_iast kx hK hP352 hD353 hS351 1 rfl 11 rfl (by decide) (by decide) dX7_tick_73 (fun H354 locs354 hP354 hD354 hS354 => ?_)
        have hP355 : va_P G.1 vwCl ([(h0, .inr (7, cM F5 q1 q2 q3 q4 q5 q6 q7 q8 q9 q10 q11 sd)), (h1, .inl (G.2.1, 55, .inl (upd (upd (upd (upd (upd F6 5 0) 6 0) 3 (F6 0)) 4 (F6 1)) 11 0)))]) H354 := hP354
        have hD356 : va_D A ([(h0, .inr (7, cM F5 q1 q2 q3 q4 q5 q6 q7 q8 q9 q10 q11 sd)), (h1, .inl (G.2.1, 55, .inl (upd (upd (upd (upd (upd F6 5 0) 6 0) 3 (F6 0)) 4 (F6 1)) 11 0)))]) := hD354
        refine lv_iinc (v := 1) (lv' := [(2, .int 1), (3, .int 0), (0, .ref h0), (1, .ref h1)]) hx hb dX7_tick_74 hl341 (k := 1) rfl (by decide +kernel) (by decide) rfl (fun ls357 hl357 => ?_)
        refine lv_goto (tgt := 22) hx hb dX7_tick_77 (by decide) ?_
        have e0 : t_X7_tick_1_f F6 = upd (upd (upd (upd (upd F6 5 0) 6 0) 3 (F6 0)) 4 (F6 1)) 11 0 := by rw [t_X7_tick_1_f]; (try rw [hr9]); (try rw [hr11]); rw [if_neg c8, if_pos c10, if_neg c12]
        exact cut1 (upd (upd (upd (upd (upd F6 5 0) 6 0) 3 (F6 0)) 4 (F6 1)) 11 0) _ _ _ e0 hP355 hD356 hS354 (lv_sub hl357 [2, 3, 0, 1] rfl)
