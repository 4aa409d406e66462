theorem ksub {x y : Int32} {a b : Nat} (hx : x = nI a) (hy : y = nI b) (h : b ≤ a) : x - y = nI (a - b) := by rw [hx, hy]; exact pk_sub h
theorem kin_iff (v a b : Int64) : r_X7_in v a b = if a ≤ v ∧ v ≤ b then 1 else 0 := by
  unfold r_X7_in
  simp only [lg_cmp_lt, lg_cmp_gt, lg_cmp_ge, lg_cmp_le, Int64.lt_iff_toInt_lt, Int64.le_iff_toInt_le]
  repeat' split
  all_goals first | rfl | omega
theorem kin_of {x : Int32} {a b : Int64} {N : Nat} (h : ¬ r_X7_in x.toInt64 a b = 0) (h0 : 0 ≤ a) (hN : b.toInt = (N : Int)) : x = nI x.toNatClampNeg ∧ x.toNatClampNeg ≤ N := by
  rw [kin_iff] at h
  split at h
  · rename_i hh
    obtain ⟨h1, h2⟩ := hh
    have e1 : (0 : Int) ≤ x.toInt := by
      have := Int64.le_iff_toInt_le.mp h1
      have := Int64.le_iff_toInt_le.mp h0
      rw [Int32.toInt_toInt64] at *
      simp at *
      omega
    have e2 : x.toInt ≤ N := by
      have := Int64.le_iff_toInt_le.mp h2
      rw [Int32.toInt_toInt64] at this
      omega
    have e3 : x.toNatClampNeg = x.toInt.toNat := rfl
    refine ⟨?_, by omega⟩
    obtain ⟨k, hk, rfl⟩ := nI_of (x := x) (fun q => by
      have := Int32.lt_iff_toInt_lt.mp q
      simp at this
      omega)
    rw [nI_clamp hk]
  · exact absurd rfl h

theorem knoend {x : Int32} {r : Int32} (h0 : ¬ x = 0) (h1 : ¬ x = 1) (hr : r_X7_in x.toInt64 0 1 = r) : r = 0 := by
  rw [← hr, kin_iff, if_neg]
  rintro ⟨a, b⟩
  have a1 := Int64.le_iff_toInt_le.mp a
  have b1 := Int64.le_iff_toInt_le.mp b
  rw [Int32.toInt_toInt64] at a1 b1
  simp at a1 b1
  have : x.toInt = 0 ∨ x.toInt = 1 := by omega
  rcases this with h | h
  · exact h0 (Int32.toInt_inj.mp (by rw [h]; rfl))
  · exact h1 (Int32.toInt_inj.mp (by rw [h]; rfl))

set_option maxHeartbeats 4000000 in
set_option maxRecDepth 100000 in
theorem c_X7_in_001 (l : Launch) (G : kG) : cG l G yX7_in cX7_in 6 (some .boolean) 0 [.long 0, .long 0, .long 1] ([]) (qI G (fun (r : Int32) (_ : Unit) => r = 1) (fun _ => [])) := by
  refine kintro (by decide) (Nat.le_of_ble_eq_true rfl) ?_
  intro p e s m args below meth c A ls kx hK hP hD hS hA hl
  have kx : kX p s m args meth c cX7_in 6 (some .boolean) RX7 := kx
  have hx := kx.1
  have hb := kx.2.1
  have hown := kx.2.2.2.2.1
  have ht := kx.2.2.2.2.2.2
  have hl : lv_has ls 6 [(0, .long 0), (2, .long 0), (4, .long 1)] := hl
  refine lv_lload_n hx hb dX7_in_0 rfl (lv_at hl 0 rfl) ?_
  refine lv_lload_n hx hb dX7_in_1 rfl (lv_at hl 1 rfl) ?_
  refine W.lcmp hx hb dX7_in_2 ?_
  refine k_top (y := 0) (by decide +kernel) ?_
  refine lv_if_lt (x := 0) (tgt := 17) hx hb dX7_in_3 (by decide) (fun (c1 : 0 < 0) => absurd c1 (by decide)) (fun (c1 : ¬ (0 < 0)) => ?_)
  refine lv_lload_n hx hb dX7_in_6 rfl (lv_at hl 0 rfl) ?_
  refine lv_lload hx hb dX7_in_7 (lv_at hl 2 rfl) ?_
  refine W.lcmp hx hb dX7_in_9 ?_
  refine k_top (y := (-1)) (by decide +kernel) ?_
  refine lv_if_gt (x := (-1)) (tgt := 17) hx hb dX7_in_10 (by decide) (fun (c2 : 0 < (-1)) => absurd c2 (by decide)) (fun (c2 : ¬ (0 < (-1))) => ?_)
  refine lv_iconst (v := 1) hx hb dX7_in_13 (by decide) ?_
  refine lv_goto (tgt := 18) hx hb dX7_in_14 (by decide) ?_
  exact k_zret kx hK hP hD hS (u := ()) rfl rfl kb1 dX7_in_18

set_option maxHeartbeats 4000000 in
set_option maxRecDepth 100000 in
theorem c_X7_in_101 (l : Launch) (G : kG) : cG l G yX7_in cX7_in 6 (some .boolean) 0 [.long 1, .long 0, .long 1] ([]) (qI G (fun (r : Int32) (_ : Unit) => r = 1) (fun _ => [])) := by
  refine kintro (by decide) (Nat.le_of_ble_eq_true rfl) ?_
  intro p e s m args below meth c A ls kx hK hP hD hS hA hl
  have kx : kX p s m args meth c cX7_in 6 (some .boolean) RX7 := kx
  have hx := kx.1
  have hb := kx.2.1
  have hown := kx.2.2.2.2.1
  have ht := kx.2.2.2.2.2.2
  have hl : lv_has ls 6 [(0, .long 1), (2, .long 0), (4, .long 1)] := hl
  refine lv_lload_n hx hb dX7_in_0 rfl (lv_at hl 0 rfl) ?_
  refine lv_lload_n hx hb dX7_in_1 rfl (lv_at hl 1 rfl) ?_
  refine W.lcmp hx hb dX7_in_2 ?_
  refine k_top (y := 1) (by decide +kernel) ?_
  refine lv_if_lt (x := 1) (tgt := 17) hx hb dX7_in_3 (by decide) (fun (c1 : 1 < 0) => absurd c1 (by decide)) (fun (c1 : ¬ (1 < 0)) => ?_)
  refine lv_lload_n hx hb dX7_in_6 rfl (lv_at hl 0 rfl) ?_
  refine lv_lload hx hb dX7_in_7 (lv_at hl 2 rfl) ?_
  refine W.lcmp hx hb dX7_in_9 ?_
  refine k_top (y := 0) (by decide +kernel) ?_
  refine lv_if_gt (x := 0) (tgt := 17) hx hb dX7_in_10 (by decide) (fun (c2 : 0 < 0) => absurd c2 (by decide)) (fun (c2 : ¬ (0 < 0)) => ?_)
  refine lv_iconst (v := 1) hx hb dX7_in_13 (by decide) ?_
  refine lv_goto (tgt := 18) hx hb dX7_in_14 (by decide) ?_
  exact k_zret kx hK hP hD hS (u := ()) rfl rfl kb1 dX7_in_18

set_option maxHeartbeats 4000000 in
set_option maxRecDepth 100000 in
theorem c_X7_noEnd_0 (l : Launch) (G : kG) : cG l G yX7_noEnd cX7_noEnd 1 (some .boolean) 1 [.int 0] ([]) (qI G (fun (r : Int32) (_ : Unit) => r = 0) (fun _ => [])) := by
  refine kintro (by decide) (Nat.le_of_ble_eq_true rfl) ?_
  intro p e s m args below meth c A ls kx hK hP hD hS hA hl
  have kx : kX p s m args meth c cX7_noEnd 1 (some .boolean) RX7 := kx
  have hx := kx.1
  have hb := kx.2.1
  have hown := kx.2.2.2.2.1
  have ht := kx.2.2.2.2.2.2
  have hl : lv_has ls 1 [(0, .int 0)] := hl
  refine lv_iload_n hx hb dX7_noEnd_0 rfl (lv_at hl 0 rfl) ?_
  refine lv_i2l (v := 0) hx hb dX7_noEnd_1 (by decide +kernel) ?_
  refine lv_lconst (v := 0) hx hb dX7_noEnd_2 (by decide) ?_
  refine lv_lconst (v := 1) hx hb dX7_noEnd_3 (by decide) ?_
  refine k_calli (kRunS (As := [.long 0, .long 0, .long 1]) (rest := []) kx (c_X7_in_001 l G ) q_740 q_738 q_36 q_739 nX7_in ⟨Nat.le_of_ble_eq_true rfl, Nat.le_of_ble_eq_true rfl⟩ hK hP hD (kCtx_nil _) rfl hl.1 (Nat.le_of_ble_eq_true rfl) dX7_noEnd_4 ⟨Nat.zero_le _, Nat.zero_le _⟩) hP hD hS hA (kCtx_nil _) (fun _ => rfl) (fun r1 _ H1 locs1 hw hP1 hD1 hS1 => ?_)
  have hr1 : 1 = r1 := (show r1 = 1 from hw).symm
  subst hr1
  have hP2 : va_P G.1 vwCl ([]) H1 := hP1
  have hD3 : va_D A ([]) := hD1
  refine lv_if_ne (x := 1) (tgt := 14) hx hb dX7_noEnd_7 (by decide) (fun (c2 : ¬ (1 = 0)) => ?_) (fun (c2 : 1 = 0) => absurd c2 (by decide))
  refine lv_iconst (v := 0) hx hb dX7_noEnd_14 (by decide) ?_
  exact k_zret kx hK hP2 hD3 hS1 (u := ()) rfl rfl kb0 dX7_noEnd_15

set_option maxHeartbeats 4000000 in
set_option maxRecDepth 100000 in
theorem c_X7_noEnd_1 (l : Launch) (G : kG) : cG l G yX7_noEnd cX7_noEnd 1 (some .boolean) 1 [.int 1] ([]) (qI G (fun (r : Int32) (_ : Unit) => r = 0) (fun _ => [])) := by
  refine kintro (by decide) (Nat.le_of_ble_eq_true rfl) ?_
  intro p e s m args below meth c A ls kx hK hP hD hS hA hl
  have kx : kX p s m args meth c cX7_noEnd 1 (some .boolean) RX7 := kx
  have hx := kx.1
  have hb := kx.2.1
  have hown := kx.2.2.2.2.1
  have ht := kx.2.2.2.2.2.2
  have hl : lv_has ls 1 [(0, .int 1)] := hl
  refine lv_iload_n hx hb dX7_noEnd_0 rfl (lv_at hl 0 rfl) ?_
  refine lv_i2l (v := 1) hx hb dX7_noEnd_1 (by decide +kernel) ?_
  refine lv_lconst (v := 0) hx hb dX7_noEnd_2 (by decide) ?_
  refine lv_lconst (v := 1) hx hb dX7_noEnd_3 (by decide) ?_
  refine k_calli (kRunS (As := [.long 1, .long 0, .long 1]) (rest := []) kx (c_X7_in_101 l G ) q_740 q_738 q_36 q_739 nX7_in ⟨Nat.le_of_ble_eq_true rfl, Nat.le_of_ble_eq_true rfl⟩ hK hP hD (kCtx_nil _) rfl hl.1 (Nat.le_of_ble_eq_true rfl) dX7_noEnd_4 ⟨Nat.zero_le _, Nat.zero_le _⟩) hP hD hS hA (kCtx_nil _) (fun _ => rfl) (fun r1 _ H1 locs1 hw hP1 hD1 hS1 => ?_)
  have hr1 : 1 = r1 := (show r1 = 1 from hw).symm
  subst hr1
  have hP2 : va_P G.1 vwCl ([]) H1 := hP1
  have hD3 : va_D A ([]) := hD1
  refine lv_if_ne (x := 1) (tgt := 14) hx hb dX7_noEnd_7 (by decide) (fun (c2 : ¬ (1 = 0)) => ?_) (fun (c2 : 1 = 0) => absurd c2 (by decide))
  refine lv_iconst (v := 0) hx hb dX7_noEnd_14 (by decide) ?_
  exact k_zret kx hK hP2 hD3 hS1 (u := ()) rfl rfl kb0 dX7_noEnd_15

set_option maxHeartbeats 4000000 in
set_option maxRecDepth 100000 in
theorem c_X7_noEnd_x (l : Launch) (G : kG) (p0 : Int32) (h9 : ¬ p0 = 0) (h8 : ¬ p0 = 1) : cG l G yX7_noEnd cX7_noEnd 1 (some .boolean) 1 [.int p0] ([]) (qI G (fun (r : Int32) (_ : Unit) => r = 1) (fun _ => [])) := by
  refine kintro (by decide) (Nat.le_of_ble_eq_true rfl) ?_
  intro p e s m args below meth c A ls kx hK hP hD hS hA hl
  have kx : kX p s m args meth c cX7_noEnd 1 (some .boolean) RX7 := kx
  have hx := kx.1
  have hb := kx.2.1
  have hown := kx.2.2.2.2.1
  have ht := kx.2.2.2.2.2.2
  have hl : lv_has ls 1 [(0, .int p0)] := hl
  refine lv_iload_n hx hb dX7_noEnd_0 rfl (lv_at hl 0 rfl) ?_
  refine lv_i2l (v := p0.toInt64) hx hb dX7_noEnd_1 rfl ?_
  refine lv_lconst (v := 0) hx hb dX7_noEnd_2 (by decide) ?_
  refine lv_lconst (v := 1) hx hb dX7_noEnd_3 (by decide) ?_
  refine k_calli (kRunS (As := [.long p0.toInt64, .long 0, .long 1]) (rest := []) kx (c_X7_in l G p0.toInt64 0 1) q_740 q_738 q_36 q_739 nX7_in ⟨Nat.le_of_ble_eq_true rfl, Nat.le_of_ble_eq_true rfl⟩ hK hP hD (kCtx_nil _) rfl hl.1 (Nat.le_of_ble_eq_true rfl) dX7_noEnd_4 ⟨Nat.zero_le _, Nat.zero_le _⟩) hP hD hS hA (kCtx_nil _) (fun _ => rfl) (fun r1 _ H1 locs1 hw hP1 hD1 hS1 => ?_)
  have hr1 : r_X7_in p0.toInt64 0 1 = r1 := (show r1 = r_X7_in p0.toInt64 0 1 from hw).symm
  have hP2 : va_P G.1 vwCl ([]) H1 := hP1
  have hD3 : va_D A ([]) := hD1
  refine lv_if_ne (x := r1) (tgt := 14) hx hb dX7_noEnd_7 (by decide) (fun (c2 : ¬ (r1 = 0)) => absurd (knoend h9 h8 hr1) c2) (fun (c2 : r1 = 0) => ?_)
  refine lv_iconst (v := 1) hx hb dX7_noEnd_10 (by decide) ?_
  refine lv_goto (tgt := 15) hx hb dX7_noEnd_11 (by decide) ?_
  exact k_zret kx hK hP2 hD3 hS1 (u := ()) rfl rfl kb1 dX7_noEnd_15

def l_X7_goFor_1_Z : Nat → Nat → (Nat → Int32) → (Nat → Int32) → Nat → Int32
  | 0, j1, Z_1, f_1 => Z_1
  | n1 + 1, j1, Z_1, f_1 => l_X7_goFor_1_Z n1 (j1 + 1) (s_X7_tick_Z Z_1 f_1) (s_X7_tick_f Z_1 f_1)
def s_X7_goFor_Z (Z : Nat → Int32) (f : Nat → Int32) (p0 : Int32) : Nat → Int32 := l_X7_goFor_1_Z p0.toNatClampNeg 0 Z f
def l_X7_goFor_1_f : Nat → Nat → (Nat → Int32) → (Nat → Int32) → Nat → Int32
  | 0, j1, Z_1, f_1 => f_1
  | n1 + 1, j1, Z_1, f_1 => l_X7_goFor_1_f n1 (j1 + 1) (s_X7_tick_Z Z_1 f_1) (s_X7_tick_f Z_1 f_1)
def s_X7_goFor_f (Z : Nat → Int32) (f : Nat → Int32) (p0 : Int32) : Nat → Int32 := l_X7_goFor_1_f p0.toNatClampNeg 0 Z f
set_option maxHeartbeats 4000000 in
set_option maxRecDepth 100000 in
theorem c_X7_goFor (l : Launch) (G : kG) (Z : Nat → Int32) (sd : Int64) (h0 : Nat) (q1 : Nat) (q2 : Nat) (q3 : Nat) (q4 : Nat) (q5 : Nat) (q6 : Nat) (q7 : Nat) (q8 : Nat) (q9 : Nat) (q10 : Nat) (q11 : Nat) (f : Nat → Int32) (h1 : Nat) (p0 : Int32) : cG l G yX7_goFor cX7_goFor 4 none 5 [.ref h0, .ref h1, .int p0] ([(h0, .inr (7, cM Z q1 q2 q3 q4 q5 q6 q7 q8 q9 q10 q11 sd)), (h1, .inl (G.2.1, 55, .inl f))]) (qV G (fun u : ((Nat → Int32) × (Nat → Int32)) => u.1 = s_X7_goFor_Z Z f p0 ∧ u.2 = s_X7_goFor_f Z f p0) (fun u => [(h0, .inr (7, cM u.1 q1 q2 q3 q4 q5 q6 q7 q8 q9 q10 q11 sd)), (h1, .inl (G.2.1, 55, .inl u.2))])) := by
  refine kintro (by decide) (Nat.le_of_ble_eq_true rfl) ?_
  intro p e s m args below meth c A ls kx hK hP hD hS hA hl
  have kx : kX p s m args meth c cX7_goFor 4 none RX7 := kx
  have hx := kx.1
  have hb := kx.2.1
  have hown := kx.2.2.2.2.1
  have ht := kx.2.2.2.2.2.2
  have hl : lv_has ls 4 [(0, .ref h0), (1, .ref h1), (2, .int p0)] := hl
  refine lv_iconst (v := 0) hx hb dX7_goFor_0 (by decide) ?_
  refine lv_istore_n (lv' := [(3, .int 0), (0, .ref h0), (1, .ref h1), (2, .int p0)]) hx hb dX7_goFor_1 rfl hl (by decide) rfl (fun ls1 hl1 => ?_)
  have lp1 : ∀ (n1 j1 : Nat) (Z_1 : Nat → Int32) (f_1 : Nat → Int32), j1 + n1 = p0.toNatClampNeg → (hZ_1 : s_X7_goFor_Z Z f p0 = l_X7_goFor_1_Z n1 j1 Z_1 f_1) → (hf_1 : s_X7_goFor_f Z f p0 = l_X7_goFor_1_f n1 j1 Z_1 f_1) → ∀ (H : Heap) (locs : List Loc) (ls : Array Slot), va_P G.1 vwCl ([(h0, .inr (7, cM Z_1 q1 q2 q3 q4 q5 q6 q7 q8 q9 q10 q11 sd)), (h1, .inl (G.2.1, 55, .inl f_1))]) H → va_D A ([(h0, .inr (7, cM Z_1 q1 q2 q3 q4 q5 q6 q7 q8 q9 q10 q11 sd)), (h1, .inl (G.2.1, 55, .inl f_1))]) → va_S A s.heap H locs → lv_has ls 4 [(0, .ref h0), (1, .ref h1), (2, .int p0), (3, .int (nI j1))] → W p l e (kr 5) s m args below meth c H locs 0 0 (MQ below (qV G (fun u : ((Nat → Int32) × (Nat → Int32)) => u.1 = s_X7_goFor_Z Z f p0 ∧ u.2 = s_X7_goFor_f Z f p0) (fun u => [(h0, .inr (7, cM u.1 q1 q2 q3 q4 q5 q6 q7 q8 q9 q10 q11 sd)), (h1, .inl (G.2.1, 55, .inl u.2))]) A) args s 0 0 A) (F0 m 2 ls []) := by
    intro n1
    induction n1 with
    | zero =>
      intro j1 Z_1 f_1 hj1 hZ_1 hf_1 H2 locs2 ls2 hP2 hD2 hS2 hl2
      refine lv_iload_n hx hb dX7_goFor_2 rfl (lv_at hl2 3 rfl) ?_
      refine lv_iload_n hx hb dX7_goFor_3 rfl (lv_at hl2 2 rfl) ?_
      refine lv_icmp_ge (x := nI j1) (y := p0) (tgt := 18) hx hb dX7_goFor_4 (by decide) (fun (c1 : p0 ≤ nI j1) => ?_) (fun (c1 : ¬ (p0 ≤ nI j1)) => absurd (krun_z hj1) c1)
      have e0 : s_X7_goFor_Z Z f p0 = Z_1 := by rw [hZ_1, l_X7_goFor_1_Z]
      have e1 : s_X7_goFor_f Z f p0 = f_1 := by rw [hf_1, l_X7_goFor_1_f]
      exact k_vret kx hK hP2 hD2 hS2 (u := (Z_1, f_1)) rfl ⟨e0.symm, e1.symm⟩ dX7_goFor_18
    | succ n1 ih1 =>
      intro j1 Z_1 f_1 hj1 hZ_1 hf_1 H2 locs2 ls2 hP2 hD2 hS2 hl2
      refine lv_iload_n hx hb dX7_goFor_2 rfl (lv_at hl2 3 rfl) ?_
      refine lv_iload_n hx hb dX7_goFor_3 rfl (lv_at hl2 2 rfl) ?_
      refine lv_icmp_ge (x := nI j1) (y := p0) (tgt := 18) hx hb dX7_goFor_4 (by decide) (fun (c2 : p0 ≤ nI j1) => absurd c2 (krun_s hj1)) (fun (c2 : ¬ (p0 ≤ nI j1)) => ?_)
      refine lv_aload_n hx hb dX7_goFor_7 rfl (lv_at hl2 0 rfl) ?_
      refine lv_aload_n hx hb dX7_goFor_8 rfl (lv_at hl2 1 rfl) ?_
      refine k_callv (kRunV (As := [.ref h1]) (rest := []) kx (c_X7_tick l G Z_1 sd h0 q1 q2 q3 q4 q5 q6 q7 q8 q9 q10 q11 f_1 h1) q_782 q_779 q_36 q_781 q_18 nX7_tick ⟨Nat.le_of_ble_eq_true rfl, Nat.le_of_ble_eq_true rfl⟩ hK hP2 hD2 (kCtx_all _) 0 7 rfl rfl rfl rfl hl2.1 (Nat.le_of_ble_eq_true rfl) dX7_goFor_9 ⟨Nat.zero_le _, Nat.zero_le _⟩) hP2 hD2 hS2 hA (kCtx_all _) (fun _ => rfl) (fun u H3 locs3 hw hP3 hD3 hS3 => ?_)
      obtain ⟨F4, F5⟩ := u
      obtain ⟨hF4, hF5⟩ := hw
      have hF4 : s_X7_tick_Z Z_1 f_1 = F4 := (show F4 = s_X7_tick_Z Z_1 f_1 from hF4).symm
      have hF5 : s_X7_tick_f Z_1 f_1 = F5 := (show F5 = s_X7_tick_f Z_1 f_1 from hF5).symm
      have hP4 : va_P G.1 vwCl ([(h0, .inr (7, cM F4 q1 q2 q3 q4 q5 q6 q7 q8 q9 q10 q11 sd)), (h1, .inl (G.2.1, 55, .inl F5))]) H3 := hP3
      have hD5 : va_D A ([(h0, .inr (7, cM F4 q1 q2 q3 q4 q5 q6 q7 q8 q9 q10 q11 sd)), (h1, .inl (G.2.1, 55, .inl F5))]) := hD3
      refine lv_iinc (v := nI (j1 + 1)) (lv' := [(3, .int (nI (j1 + 1))), (0, .ref h0), (1, .ref h1), (2, .int p0)]) hx hb dX7_goFor_12 hl2 (k := 3) rfl (nI_1 j1) (by decide) rfl (fun ls6 hl6 => ?_)
      refine lv_goto (tgt := 2) hx hb dX7_goFor_15 (by decide) ?_
      subst hF4
      subst hF5
      have gZ : s_X7_goFor_Z Z f p0 = l_X7_goFor_1_Z n1 (j1 + 1) (s_X7_tick_Z Z_1 f_1) (s_X7_tick_f Z_1 f_1) := by rw [hZ_1, l_X7_goFor_1_Z]
      have gf : s_X7_goFor_f Z f p0 = l_X7_goFor_1_f n1 (j1 + 1) (s_X7_tick_Z Z_1 f_1) (s_X7_tick_f Z_1 f_1) := by rw [hf_1, l_X7_goFor_1_f]
      exact ih1 (j1 + 1) (s_X7_tick_Z Z_1 f_1) (s_X7_tick_f Z_1 f_1) (by omega) gZ gf _ _ _ hP4 hD5 hS3 (lv_sub hl6 [1, 2, 3, 0] rfl)
  have gZ : s_X7_goFor_Z Z f p0 = l_X7_goFor_1_Z p0.toNatClampNeg 0 Z f := by rw [s_X7_goFor_Z]
  have gf : s_X7_goFor_f Z f p0 = l_X7_goFor_1_f p0.toNatClampNeg 0 Z f := by rw [s_X7_goFor_f]
  exact lp1 p0.toNatClampNeg 0 Z f (by omega) gZ gf _ _ _ hP hD hS (lv_sub hl1 [1, 2, 3, 0] rfl)

set_option maxHeartbeats 4000000 in
set_option maxRecDepth 100000 in
theorem c_X7_layTrial (l : Launch) (G : kG) (Z : Nat → Int32) (sd : Int64) (h0 : Nat) (q1 : Nat) (q2 : Nat) (q3 : Nat) (q4 : Nat) (q5 : Nat) (q6 : Nat) (q7 : Nat) (q8 : Nat) (q9 : Nat) (q10 : Nat) (q11 : Nat) (pg : Nat → Int32) (tr : Nat → Int32) : cG l G yX7_layTrial cX7_layTrial 1 none 1 [.ref h0] ([(h0, .inr (7, cM Z q1 q2 q3 q4 q5 q6 q7 q8 q9 q10 q11 sd)), (q4, .inl (G.2.1, 55, .inl pg)), (q5, .inl (G.2.1, 55, .inl tr))]) (qV G (fun _ : Unit => True) (fun _ => [(h0, .inr (7, cM (upd (upd (upd Z 18 (-9)) 20 0) 21 6) q1 q2 q3 q4 q5 q6 q7 q8 q9 q10 q11 sd)), (q4, .inl (G.2.1, 55, .inl pg)), (q5, .inl (G.2.1, 55, .inl (s_X7_lay_t pg tr)))])) := by
  refine kintro (by decide) (Nat.le_of_ble_eq_true rfl) ?_
  intro p e s m args below meth c A ls kx hK hP hD hS hA hl
  have kx : kX p s m args meth c cX7_layTrial 1 none RX7 := kx
  have hx := kx.1
  have hb := kx.2.1
  have hown := kx.2.2.2.2.1
  have ht := kx.2.2.2.2.2.2
  have hl : lv_has ls 1 [(0, .ref h0)] := hl
  refine lv_aload_n hx hb dX7_layTrial_0 rfl (lv_at hl 0 rfl) ?_
  refine va_get (ci := 7) (v := .ref q4) (C := RX7) (T := TX7) (N := 22) hx hb ht inX7 hown hK.1 hP 0 rfl rfl 7 (by decide) (ht _ q_673) (fun _ h9 => h9) rfl dX7_layTrial_1 ?_
  refine lv_aload_n hx hb dX7_layTrial_4 rfl (lv_at hl 0 rfl) ?_
  refine va_get (ci := 7) (v := .ref q5) (C := RX7) (T := TX7) (N := 22) hx hb ht inX7 hown hK.1 hP 0 rfl rfl 8 (by decide) (ht _ q_674) (fun _ h9 => h9) rfl dX7_layTrial_5 ?_
  refine k_callv (kRunS (As := [.ref q4, .ref q5]) (rest := []) kx (c_X7_lay l G pg tr q4 q5) q_770 q_768 q_36 q_769 nX7_lay ⟨Nat.le_of_ble_eq_true rfl, Nat.le_of_ble_eq_true rfl⟩ hK hP hD (kCtx_places _ _ [1, 2] rfl rfl) rfl hl.1 (Nat.le_of_ble_eq_true rfl) dX7_layTrial_8 ⟨Nat.zero_le _, Nat.zero_le _⟩) hP hD hS hA (kCtx_places _ _ [1, 2] rfl rfl) (fun _ => rfl) (fun F2 H1 locs1 hw hP1 hD1 hS1 => ?_)
  have hF2 : s_X7_lay_t pg tr = F2 := (show F2 = s_X7_lay_t pg tr from hw).symm
  have hP2 : va_P G.1 vwCl ([(h0, .inr (7, cM Z q1 q2 q3 q4 q5 q6 q7 q8 q9 q10 q11 sd)), (q4, .inl (G.2.1, 55, .inl pg)), (q5, .inl (G.2.1, 55, .inl F2))]) H1 := hP1
  have hD3 : va_D A ([(h0, .inr (7, cM Z q1 q2 q3 q4 q5 q6 q7 q8 q9 q10 q11 sd)), (q4, .inl (G.2.1, 55, .inl pg)), (q5, .inl (G.2.1, 55, .inl F2))]) := hD1
  refine lv_aload_n hx hb dX7_layTrial_11 rfl (lv_at hl 0 rfl) ?_
  refine lv_bipush (v := (-9)) hx hb dX7_layTrial_12 (by decide) ?_
  refine va_put (ci := 7) (v := .int (-9)) (ty := .int) (C := RX7) (T := TX7) (N := 22) hx hb ht inX7 tyX7 tyX7_ok nmX7 hown hK.1 hP2 hD3 hS1 0 rfl rfl 18 (by decide) (ht _ q_684) (fun _ h9 => h9) rfl (by decide +kernel) rfl rfl (Nat.le_of_ble_eq_true rfl) dX7_layTrial_14 (fun H4 locs4 hP4 hD4 hS4 => ?_)
  have hP5 : va_P G.1 vwCl ([(h0, .inr (7, cM (upd Z 18 (-9)) q1 q2 q3 q4 q5 q6 q7 q8 q9 q10 q11 sd)), (q4, .inl (G.2.1, 55, .inl pg)), (q5, .inl (G.2.1, 55, .inl F2))]) H4 := hP4
  have hD6 : va_D A ([(h0, .inr (7, cM (upd Z 18 (-9)) q1 q2 q3 q4 q5 q6 q7 q8 q9 q10 q11 sd)), (q4, .inl (G.2.1, 55, .inl pg)), (q5, .inl (G.2.1, 55, .inl F2))]) := hD4
  refine lv_aload_n hx hb dX7_layTrial_17 rfl (lv_at hl 0 rfl) ?_
  refine lv_iconst (v := 0) hx hb dX7_layTrial_18 (by decide) ?_
  refine va_put (ci := 7) (v := .int 0) (ty := .int) (C := RX7) (T := TX7) (N := 22) hx hb ht inX7 tyX7 tyX7_ok nmX7 hown hK.1 hP5 hD6 hS4 0 rfl rfl 20 (by decide) (ht _ q_686) (fun _ h9 => h9) rfl (by decide +kernel) rfl rfl (Nat.le_of_ble_eq_true rfl) dX7_layTrial_19 (fun H7 locs7 hP7 hD7 hS7 => ?_)
  have hP8 : va_P G.1 vwCl ([(h0, .inr (7, cM (upd (upd Z 18 (-9)) 20 0) q1 q2 q3 q4 q5 q6 q7 q8 q9 q10 q11 sd)), (q4, .inl (G.2.1, 55, .inl pg)), (q5, .inl (G.2.1, 55, .inl F2))]) H7 := hP7
  have hD9 : va_D A ([(h0, .inr (7, cM (upd (upd Z 18 (-9)) 20 0) q1 q2 q3 q4 q5 q6 q7 q8 q9 q10 q11 sd)), (q4, .inl (G.2.1, 55, .inl pg)), (q5, .inl (G.2.1, 55, .inl F2))]) := hD7
  refine lv_aload_n hx hb dX7_layTrial_22 rfl (lv_at hl 0 rfl) ?_
  refine lv_bipush (v := 6) hx hb dX7_layTrial_23 (by decide) ?_
  refine va_put (ci := 7) (v := .int 6) (ty := .int) (C := RX7) (T := TX7) (N := 22) hx hb ht inX7 tyX7 tyX7_ok nmX7 hown hK.1 hP8 hD9 hS7 0 rfl rfl 21 (by decide) (ht _ q_687) (fun _ h9 => h9) rfl (by decide +kernel) rfl rfl (Nat.le_of_ble_eq_true rfl) dX7_layTrial_25 (fun H10 locs10 hP10 hD10 hS10 => ?_)
  have hP11 : va_P G.1 vwCl ([(h0, .inr (7, cM (upd (upd (upd Z 18 (-9)) 20 0) 21 6) q1 q2 q3 q4 q5 q6 q7 q8 q9 q10 q11 sd)), (q4, .inl (G.2.1, 55, .inl pg)), (q5, .inl (G.2.1, 55, .inl F2))]) H10 := hP10
  have hD12 : va_D A ([(h0, .inr (7, cM (upd (upd (upd Z 18 (-9)) 20 0) 21 6) q1 q2 q3 q4 q5 q6 q7 q8 q9 q10 q11 sd)), (q4, .inl (G.2.1, 55, .inl pg)), (q5, .inl (G.2.1, 55, .inl F2))]) := hD10
  subst hF2
  exact k_vret kx hK hP11 hD12 hS10 (u := ()) rfl trivial dX7_layTrial_28

def l_X7_noticed_0_1_r : Nat → Nat → (Nat → Int32) → (Nat → Int32) → Int32
  | 0, j1, Z_1, tr_1 => (-9)
  | n1 + 1, j1, Z_1, tr_1 => if tr_1 5 = 0 then (nI j1) else l_X7_noticed_0_1_r n1 (j1 + 1) (s_X7_tick_Z Z_1 tr_1) (s_X7_tick_f Z_1 tr_1)
def r_X7_noticed_0 (Z : Nat → Int32) (pg : Nat → Int32) (tr : Nat → Int32) : Int32 := l_X7_noticed_0_1_r 100 0 (upd (upd (upd Z 18 (-9)) 20 0) 21 6) (upd (upd (s_X7_lay_t pg tr) 32 0) 33 0)
def l_X7_noticed_0_1_Z : Nat → Nat → (Nat → Int32) → (Nat → Int32) → Nat → Int32
  | 0, j1, Z_1, tr_1 => Z_1
  | n1 + 1, j1, Z_1, tr_1 => if tr_1 5 = 0 then Z_1 else l_X7_noticed_0_1_Z n1 (j1 + 1) (s_X7_tick_Z Z_1 tr_1) (s_X7_tick_f Z_1 tr_1)
def s_X7_noticed_0_Z (Z : Nat → Int32) (pg : Nat → Int32) (tr : Nat → Int32) : Nat → Int32 := l_X7_noticed_0_1_Z 100 0 (upd (upd (upd Z 18 (-9)) 20 0) 21 6) (upd (upd (s_X7_lay_t pg tr) 32 0) 33 0)
def l_X7_noticed_0_1_tr : Nat → Nat → (Nat → Int32) → (Nat → Int32) → Nat → Int32
  | 0, j1, Z_1, tr_1 => tr_1
  | n1 + 1, j1, Z_1, tr_1 => if tr_1 5 = 0 then tr_1 else l_X7_noticed_0_1_tr n1 (j1 + 1) (s_X7_tick_Z Z_1 tr_1) (s_X7_tick_f Z_1 tr_1)
def s_X7_noticed_0_tr (Z : Nat → Int32) (pg : Nat → Int32) (tr : Nat → Int32) : Nat → Int32 := l_X7_noticed_0_1_tr 100 0 (upd (upd (upd Z 18 (-9)) 20 0) 21 6) (upd (upd (s_X7_lay_t pg tr) 32 0) 33 0)
set_option maxHeartbeats 4000000 in
set_option maxRecDepth 100000 in
theorem c_X7_noticed_0 (l : Launch) (G : kG) (Z : Nat → Int32) (sd : Int64) (h0 : Nat) (q1 : Nat) (q2 : Nat) (q3 : Nat) (q4 : Nat) (q5 : Nat) (q6 : Nat) (q7 : Nat) (q8 : Nat) (q9 : Nat) (q10 : Nat) (q11 : Nat) (pg : Nat → Int32) (tr : Nat → Int32) : cG l G yX7_noticed cX7_noticed 3 (some .int) 5 [.ref h0, .int 0] ([(h0, .inr (7, cM Z q1 q2 q3 q4 q5 q6 q7 q8 q9 q10 q11 sd)), (q4, .inl (G.2.1, 55, .inl pg)), (q5, .inl (G.2.1, 55, .inl tr))]) (qI G (fun (r : Int32) (u : ((Nat → Int32) × (Nat → Int32))) => r = r_X7_noticed_0 Z pg tr ∧ u.1 = s_X7_noticed_0_Z Z pg tr ∧ u.2 = s_X7_noticed_0_tr Z pg tr) (fun u => [(h0, .inr (7, cM u.1 q1 q2 q3 q4 q5 q6 q7 q8 q9 q10 q11 sd)), (q4, .inl (G.2.1, 55, .inl pg)), (q5, .inl (G.2.1, 55, .inl u.2))])) := by
  refine kintro (by decide) (Nat.le_of_ble_eq_true rfl) ?_
  intro p e s m args below meth c A ls kx hK hP hD hS hA hl
  have kx : kX p s m args meth c cX7_noticed 3 (some .int) RX7 := kx
  have hx := kx.1
  have hb := kx.2.1
  have hown := kx.2.2.2.2.1
  have ht := kx.2.2.2.2.2.2
  have hl : lv_has ls 3 [(0, .ref h0), (1, .int 0)] := hl
  refine lv_aload_n hx hb dX7_noticed_0 rfl (lv_at hl 0 rfl) ?_
  refine k_callv (kRunV (As := []) (rest := []) kx (c_X7_layTrial l G Z sd h0 q1 q2 q3 q4 q5 q6 q7 q8 q9 q10 q11 pg tr) q_774 q_771 q_36 q_773 q_16 nX7_layTrial ⟨Nat.le_of_ble_eq_true rfl, Nat.le_of_ble_eq_true rfl⟩ hK hP hD (kCtx_all _) 0 7 rfl rfl rfl rfl hl.1 (Nat.le_of_ble_eq_true rfl) dX7_noticed_1 ⟨Nat.zero_le _, Nat.zero_le _⟩) hP hD hS hA (kCtx_all _) (fun _ => rfl) (fun _ H1 locs1 hw hP1 hD1 hS1 => ?_)
  have hP2 : va_P G.1 vwCl ([(h0, .inr (7, cM (upd (upd (upd Z 18 (-9)) 20 0) 21 6) q1 q2 q3 q4 q5 q6 q7 q8 q9 q10 q11 sd)), (q4, .inl (G.2.1, 55, .inl pg)), (q5, .inl (G.2.1, 55, .inl (s_X7_lay_t pg tr)))]) H1 := hP1
  have hD3 : va_D A ([(h0, .inr (7, cM (upd (upd (upd Z 18 (-9)) 20 0) 21 6) q1 q2 q3 q4 q5 q6 q7 q8 q9 q10 q11 sd)), (q4, .inl (G.2.1, 55, .inl pg)), (q5, .inl (G.2.1, 55, .inl (s_X7_lay_t pg tr)))]) := hD1
  refine lv_aload_n hx hb dX7_noticed_4 rfl (lv_at hl 0 rfl) ?_
  refine va_get (ci := 7) (v := .ref q5) (C := RX7) (T := TX7) (N := 22) hx hb ht inX7 hown hK.1 hP2 0 rfl rfl 8 (by decide) (ht _ q_674) (fun _ h9 => h9) rfl dX7_noticed_5 ?_
  refine lv_bipush (v := 32) hx hb dX7_noticed_8 (by decide) ?_
  refine lv_iconst (v := 0) hx hb dX7_noticed_10 (by decide) ?_
  refine k_iast kx hK hP2 hD3 hS1 2 rfl 32 rfl (by decide) (by decide) dX7_noticed_11 (fun H4 locs4 hP4 hD4 hS4 => ?_)
  have hP5 : va_P G.1 vwCl ([(h0, .inr (7, cM (upd (upd (upd Z 18 (-9)) 20 0) 21 6) q1 q2 q3 q4 q5 q6 q7 q8 q9 q10 q11 sd)), (q4, .inl (G.2.1, 55, .inl pg)), (q5, .inl (G.2.1, 55, .inl (upd (s_X7_lay_t pg tr) 32 0)))]) H4 := hP4
  have hD6 : va_D A ([(h0, .inr (7, cM (upd (upd (upd Z 18 (-9)) 20 0) 21 6) q1 q2 q3 q4 q5 q6 q7 q8 q9 q10 q11 sd)), (q4, .inl (G.2.1, 55, .inl pg)), (q5, .inl (G.2.1, 55, .inl (upd (s_X7_lay_t pg tr) 32 0)))]) := hD4
  refine lv_aload_n hx hb dX7_noticed_12 rfl (lv_at hl 0 rfl) ?_
  refine va_get (ci := 7) (v := .ref q5) (C := RX7) (T := TX7) (N := 22) hx hb ht inX7 hown hK.1 hP5 0 rfl rfl 8 (by decide) (ht _ q_674) (fun _ h9 => h9) rfl dX7_noticed_13 ?_
  refine lv_bipush (v := 33) hx hb dX7_noticed_16 (by decide) ?_
  refine lv_iconst (v := 0) hx hb dX7_noticed_18 (by decide) ?_
  refine k_iast kx hK hP5 hD6 hS4 2 rfl 33 rfl (by decide) (by decide) dX7_noticed_19 (fun H7 locs7 hP7 hD7 hS7 => ?_)
  have hP8 : va_P G.1 vwCl ([(h0, .inr (7, cM (upd (upd (upd Z 18 (-9)) 20 0) 21 6) q1 q2 q3 q4 q5 q6 q7 q8 q9 q10 q11 sd)), (q4, .inl (G.2.1, 55, .inl pg)), (q5, .inl (G.2.1, 55, .inl (upd (upd (s_X7_lay_t pg tr) 32 0) 33 0)))]) H7 := hP7
  have hD9 : va_D A ([(h0, .inr (7, cM (upd (upd (upd Z 18 (-9)) 20 0) 21 6) q1 q2 q3 q4 q5 q6 q7 q8 q9 q10 q11 sd)), (q4, .inl (G.2.1, 55, .inl pg)), (q5, .inl (G.2.1, 55, .inl (upd (upd (s_X7_lay_t pg tr) 32 0) 33 0)))]) := hD7
  refine lv_iconst (v := 0) hx hb dX7_noticed_20 (by decide) ?_
  refine lv_istore_n (lv' := [(2, .int 0), (0, .ref h0), (1, .int 0)]) hx hb dX7_noticed_21 rfl hl (by decide) rfl (fun ls10 hl10 => ?_)
  have lp1 : ∀ (n1 j1 : Nat) (Z_1 : Nat → Int32) (tr_1 : Nat → Int32), j1 + n1 = 100 → (hr_1 : r_X7_noticed_0 Z pg tr = l_X7_noticed_0_1_r n1 j1 Z_1 tr_1) → (hZ_1 : s_X7_noticed_0_Z Z pg tr = l_X7_noticed_0_1_Z n1 j1 Z_1 tr_1) → (htr_1 : s_X7_noticed_0_tr Z pg tr = l_X7_noticed_0_1_tr n1 j1 Z_1 tr_1) → ∀ (H : Heap) (locs : List Loc) (ls : Array Slot), va_P G.1 vwCl ([(h0, .inr (7, cM Z_1 q1 q2 q3 q4 q5 q6 q7 q8 q9 q10 q11 sd)), (q4, .inl (G.2.1, 55, .inl pg)), (q5, .inl (G.2.1, 55, .inl tr_1))]) H → va_D A ([(h0, .inr (7, cM Z_1 q1 q2 q3 q4 q5 q6 q7 q8 q9 q10 q11 sd)), (q4, .inl (G.2.1, 55, .inl pg)), (q5, .inl (G.2.1, 55, .inl tr_1))]) → va_S A s.heap H locs → lv_has ls 3 [(0, .ref h0), (1, .int 0), (2, .int (nI j1))] → W p l e (kr 5) s m args below meth c H locs 0 0 (MQ below (qI G (fun (r : Int32) (u : ((Nat → Int32) × (Nat → Int32))) => r = r_X7_noticed_0 Z pg tr ∧ u.1 = s_X7_noticed_0_Z Z pg tr ∧ u.2 = s_X7_noticed_0_tr Z pg tr) (fun u => [(h0, .inr (7, cM u.1 q1 q2 q3 q4 q5 q6 q7 q8 q9 q10 q11 sd)), (q4, .inl (G.2.1, 55, .inl pg)), (q5, .inl (G.2.1, 55, .inl u.2))]) A) args s 0 0 A) (F0 m 22 ls []) := by
    intro n1
    induction n1 with
    | zero =>
      intro j1 Z_1 tr_1 hj1 hr_1 hZ_1 htr_1 H11 locs11 ls11 hP11 hD11 hS11 hl11
      refine lv_iload_n hx hb dX7_noticed_22 rfl (lv_at hl11 2 rfl) ?_
      refine lv_bipush (v := 100) hx hb dX7_noticed_23 (by decide) ?_
      refine lv_icmp_ge (x := nI j1) (y := 100) (tgt := 58) hx hb dX7_noticed_25 (by decide) (fun (c2 : 100 ≤ nI j1) => ?_) (fun (c2 : ¬ (100 ≤ nI j1)) => absurd (kle_z rfl hj1) c2)
      refine lv_bipush (v := (-9)) hx hb dX7_noticed_58 (by decide) ?_
      have er : r_X7_noticed_0 Z pg tr = (-9) := by rw [hr_1, l_X7_noticed_0_1_r]
      have e0 : s_X7_noticed_0_Z Z pg tr = Z_1 := by rw [hZ_1, l_X7_noticed_0_1_Z]
      have e1 : s_X7_noticed_0_tr Z pg tr = tr_1 := by rw [htr_1, l_X7_noticed_0_1_tr]
      exact k_iret kx hK hP11 hD11 hS11 (u := (Z_1, tr_1)) rfl ⟨er.symm, e0.symm, e1.symm⟩ dX7_noticed_60
    | succ n1 ih1 =>
      intro j1 Z_1 tr_1 hj1 hr_1 hZ_1 htr_1 H11 locs11 ls11 hP11 hD11 hS11 hl11
      refine lv_iload_n hx hb dX7_noticed_22 rfl (lv_at hl11 2 rfl) ?_
      refine lv_bipush (v := 100) hx hb dX7_noticed_23 (by decide) ?_
      refine lv_icmp_ge (x := nI j1) (y := 100) (tgt := 58) hx hb dX7_noticed_25 (by decide) (fun (c3 : 100 ≤ nI j1) => absurd c3 (kle_s rfl hj1 (by decide))) (fun (c3 : ¬ (100 ≤ nI j1)) => ?_)
      refine lv_aload_n hx hb dX7_noticed_28 rfl (lv_at hl11 0 rfl) ?_
      refine va_get (ci := 7) (v := .ref q5) (C := RX7) (T := TX7) (N := 22) hx hb ht inX7 hown hK.1 hP11 0 rfl rfl 8 (by decide) (ht _ q_674) (fun _ h9 => h9) rfl dX7_noticed_29 ?_
      refine lv_bipush (v := 16) hx hb dX7_noticed_32 (by decide) ?_
      refine lv_iload_n hx hb dX7_noticed_34 rfl (lv_at hl11 1 rfl) ?_
      refine lv_imul hx hb dX7_noticed_35 ?_
      refine k_top (y := 0) (by decide +kernel) ?_
      refine lv_iconst (v := 5) hx hb dX7_noticed_36 (by decide) ?_
      refine lv_iadd hx hb dX7_noticed_37 ?_
      refine k_top (y := 5) (by decide +kernel) ?_
      refine k_iald (v := (tr_1 5)) kx hK hP11 2 rfl 5 rfl (by decide) (by decide) rfl dX7_noticed_38 ?_
      refine lv_if_ne (x := tr_1 5) (tgt := 44) hx hb dX7_noticed_39 (by decide) (fun (c4 : ¬ (tr_1 5 = 0)) => ?_) (fun (c4 : tr_1 5 = 0) => ?_)
      · skip
        refine lv_aload_n hx hb dX7_noticed_44 rfl (lv_at hl11 0 rfl) ?_
        refine lv_aload_n hx hb dX7_noticed_45 rfl (lv_at hl11 0 rfl) ?_
        refine va_get (ci := 7) (v := .ref q5) (C := RX7) (T := TX7) (N := 22) hx hb ht inX7 hown hK.1 hP11 0 rfl rfl 8 (by decide) (ht _ q_674) (fun _ h9 => h9) rfl dX7_noticed_46 ?_
        refine k_callv (kRunV (As := [.ref q5]) (rest := []) kx (c_X7_tick l G Z_1 sd h0 q1 q2 q3 q4 q5 q6 q7 q8 q9 q10 q11 tr_1 q5) q_782 q_779 q_36 q_781 q_18 nX7_tick ⟨Nat.le_of_ble_eq_true rfl, Nat.le_of_ble_eq_true rfl⟩ hK hP11 hD11 (kCtx_places _ _ [0, 2] rfl rfl) 0 7 rfl rfl rfl rfl hl11.1 (Nat.le_of_ble_eq_true rfl) dX7_noticed_49 ⟨Nat.zero_le _, Nat.zero_le _⟩) hP11 hD11 hS11 hA (kCtx_places _ _ [0, 2] rfl rfl) (fun _ => rfl) (fun u H12 locs12 hw hP12 hD12 hS12 => ?_)
        obtain ⟨F6, F7⟩ := u
        obtain ⟨hF6, hF7⟩ := hw
        have hF6 : s_X7_tick_Z Z_1 tr_1 = F6 := (show F6 = s_X7_tick_Z Z_1 tr_1 from hF6).symm
        have hF7 : s_X7_tick_f Z_1 tr_1 = F7 := (show F7 = s_X7_tick_f Z_1 tr_1 from hF7).symm
        have hP13 : va_P G.1 vwCl ([(h0, .inr (7, cM F6 q1 q2 q3 q4 q5 q6 q7 q8 q9 q10 q11 sd)), (q4, .inl (G.2.1, 55, .inl pg)), (q5, .inl (G.2.1, 55, .inl F7))]) H12 := hP12
        have hD14 : va_D A ([(h0, .inr (7, cM F6 q1 q2 q3 q4 q5 q6 q7 q8 q9 q10 q11 sd)), (q4, .inl (G.2.1, 55, .inl pg)), (q5, .inl (G.2.1, 55, .inl F7))]) := hD12
        refine lv_iinc (v := nI (j1 + 1)) (lv' := [(2, .int (nI (j1 + 1))), (0, .ref h0), (1, .int 0)]) hx hb dX7_noticed_52 hl11 (k := 2) rfl (nI_1 j1) (by decide) rfl (fun ls15 hl15 => ?_)
        refine lv_goto (tgt := 22) hx hb dX7_noticed_55 (by decide) ?_
        subst hF6
        subst hF7
        have gr : r_X7_noticed_0 Z pg tr = l_X7_noticed_0_1_r n1 (j1 + 1) (s_X7_tick_Z Z_1 tr_1) (s_X7_tick_f Z_1 tr_1) := by rw [hr_1, l_X7_noticed_0_1_r, if_neg c4]
        have gZ : s_X7_noticed_0_Z Z pg tr = l_X7_noticed_0_1_Z n1 (j1 + 1) (s_X7_tick_Z Z_1 tr_1) (s_X7_tick_f Z_1 tr_1) := by rw [hZ_1, l_X7_noticed_0_1_Z, if_neg c4]
        have gtr : s_X7_noticed_0_tr Z pg tr = l_X7_noticed_0_1_tr n1 (j1 + 1) (s_X7_tick_Z Z_1 tr_1) (s_X7_tick_f Z_1 tr_1) := by rw [htr_1, l_X7_noticed_0_1_tr, if_neg c4]
        exact ih1 (j1 + 1) (s_X7_tick_Z Z_1 tr_1) (s_X7_tick_f Z_1 tr_1) (by omega) gr gZ gtr _ _ _ hP13 hD14 hS12 (lv_sub hl15 [1, 2, 0] rfl)
      · skip
        refine lv_iload_n hx hb dX7_noticed_42 rfl (lv_at hl11 2 rfl) ?_
        have er : r_X7_noticed_0 Z pg tr = nI j1 := by rw [hr_1, l_X7_noticed_0_1_r, if_pos c4]
        have e0 : s_X7_noticed_0_Z Z pg tr = Z_1 := by rw [hZ_1, l_X7_noticed_0_1_Z, if_pos c4]
        have e1 : s_X7_noticed_0_tr Z pg tr = tr_1 := by rw [htr_1, l_X7_noticed_0_1_tr, if_pos c4]
        exact k_iret kx hK hP11 hD11 hS11 (u := (Z_1, tr_1)) rfl ⟨er.symm, e0.symm, e1.symm⟩ dX7_noticed_43
  have gr : r_X7_noticed_0 Z pg tr = l_X7_noticed_0_1_r 100 0 (upd (upd (upd Z 18 (-9)) 20 0) 21 6) (upd (upd (s_X7_lay_t pg tr) 32 0) 33 0) := by rw [r_X7_noticed_0]
  have gZ : s_X7_noticed_0_Z Z pg tr = l_X7_noticed_0_1_Z 100 0 (upd (upd (upd Z 18 (-9)) 20 0) 21 6) (upd (upd (s_X7_lay_t pg tr) 32 0) 33 0) := by rw [s_X7_noticed_0_Z]
  have gtr : s_X7_noticed_0_tr Z pg tr = l_X7_noticed_0_1_tr 100 0 (upd (upd (upd Z 18 (-9)) 20 0) 21 6) (upd (upd (s_X7_lay_t pg tr) 32 0) 33 0) := by rw [s_X7_noticed_0_tr]
  exact lp1 100 0 (upd (upd (upd Z 18 (-9)) 20 0) 21 6) (upd (upd (s_X7_lay_t pg tr) 32 0) 33 0) (by omega) gr gZ gtr _ _ _ hP8 hD9 hS7 (lv_sub hl10 [1, 2, 0] rfl)

def l_X7_endures_0_1_r : Nat → Nat → Int32 → (Nat → Int32) → (Nat → Int32) → Int32
  | 0, j1, st_1, Z_1, tr_1 => st_1
  | n1 + 1, j1, st_1, Z_1, tr_1 => if st_1 = 0 then st_1 else if (s_X7_tick_f Z_1 tr_1) 5 = 0 then (l_X7_endures_0_1_r n1 (j1 + 1) 0 (s_X7_tick_Z Z_1 tr_1) (s_X7_tick_f Z_1 tr_1)) else l_X7_endures_0_1_r n1 (j1 + 1) 1 (s_X7_tick_Z Z_1 tr_1) (s_X7_tick_f Z_1 tr_1)
def r_X7_endures_0 (Z : Nat → Int32) (pg : Nat → Int32) (tr : Nat → Int32) (p1 : Int32) : Int32 := l_X7_endures_0_1_r 60 0 1 (upd (upd (upd (upd (upd Z 18 (-9)) 20 0) 21 6) 18 0) 19 p1) (s_X7_lay_t pg tr)
def l_X7_endures_0_1_Z : Nat → Nat → Int32 → (Nat → Int32) → (Nat → Int32) → Nat → Int32
  | 0, j1, st_1, Z_1, tr_1 => upd Z_1 18 (-9)
  | n1 + 1, j1, st_1, Z_1, tr_1 => if st_1 = 0 then (upd Z_1 18 (-9)) else if (s_X7_tick_f Z_1 tr_1) 5 = 0 then (l_X7_endures_0_1_Z n1 (j1 + 1) 0 (s_X7_tick_Z Z_1 tr_1) (s_X7_tick_f Z_1 tr_1)) else l_X7_endures_0_1_Z n1 (j1 + 1) 1 (s_X7_tick_Z Z_1 tr_1) (s_X7_tick_f Z_1 tr_1)
def s_X7_endures_0_Z (Z : Nat → Int32) (pg : Nat → Int32) (tr : Nat → Int32) (p1 : Int32) : Nat → Int32 := l_X7_endures_0_1_Z 60 0 1 (upd (upd (upd (upd (upd Z 18 (-9)) 20 0) 21 6) 18 0) 19 p1) (s_X7_lay_t pg tr)
def l_X7_endures_0_1_tr : Nat → Nat → Int32 → (Nat → Int32) → (Nat → Int32) → Nat → Int32
  | 0, j1, st_1, Z_1, tr_1 => tr_1
  | n1 + 1, j1, st_1, Z_1, tr_1 => if st_1 = 0 then tr_1 else if (s_X7_tick_f Z_1 tr_1) 5 = 0 then (l_X7_endures_0_1_tr n1 (j1 + 1) 0 (s_X7_tick_Z Z_1 tr_1) (s_X7_tick_f Z_1 tr_1)) else l_X7_endures_0_1_tr n1 (j1 + 1) 1 (s_X7_tick_Z Z_1 tr_1) (s_X7_tick_f Z_1 tr_1)
def s_X7_endures_0_tr (Z : Nat → Int32) (pg : Nat → Int32) (tr : Nat → Int32) (p1 : Int32) : Nat → Int32 := l_X7_endures_0_1_tr 60 0 1 (upd (upd (upd (upd (upd Z 18 (-9)) 20 0) 21 6) 18 0) 19 p1) (s_X7_lay_t pg tr)
set_option maxHeartbeats 4000000 in
set_option maxRecDepth 100000 in
theorem c_X7_endures_0 (l : Launch) (G : kG) (Z : Nat → Int32) (sd : Int64) (h0 : Nat) (q1 : Nat) (q2 : Nat) (q3 : Nat) (q4 : Nat) (q5 : Nat) (q6 : Nat) (q7 : Nat) (q8 : Nat) (q9 : Nat) (q10 : Nat) (q11 : Nat) (pg : Nat → Int32) (tr : Nat → Int32) (p1 : Int32) : cG l G yX7_endures cX7_endures 5 (some .boolean) 5 [.ref h0, .int 0, .int p1] ([(h0, .inr (7, cM Z q1 q2 q3 q4 q5 q6 q7 q8 q9 q10 q11 sd)), (q4, .inl (G.2.1, 55, .inl pg)), (q5, .inl (G.2.1, 55, .inl tr))]) (qI G (fun (r : Int32) (u : ((Nat → Int32) × (Nat → Int32))) => r = r_X7_endures_0 Z pg tr p1 ∧ u.1 = s_X7_endures_0_Z Z pg tr p1 ∧ u.2 = s_X7_endures_0_tr Z pg tr p1) (fun u => [(h0, .inr (7, cM u.1 q1 q2 q3 q4 q5 q6 q7 q8 q9 q10 q11 sd)), (q4, .inl (G.2.1, 55, .inl pg)), (q5, .inl (G.2.1, 55, .inl u.2))])) := by
  refine kintro (by decide) (Nat.le_of_ble_eq_true rfl) ?_
  intro p e s m args below meth c A ls kx hK hP hD hS hA hl
  have kx : kX p s m args meth c cX7_endures 5 (some .boolean) RX7 := kx
  have hx := kx.1
  have hb := kx.2.1
  have hown := kx.2.2.2.2.1
  have ht := kx.2.2.2.2.2.2
  have hl : lv_has ls 5 [(0, .ref h0), (1, .int 0), (2, .int p1)] := hl
  refine lv_aload_n hx hb dX7_endures_0 rfl (lv_at hl 0 rfl) ?_
  refine k_callv (kRunV (As := []) (rest := []) kx (c_X7_layTrial l G Z sd h0 q1 q2 q3 q4 q5 q6 q7 q8 q9 q10 q11 pg tr) q_774 q_771 q_36 q_773 q_16 nX7_layTrial ⟨Nat.le_of_ble_eq_true rfl, Nat.le_of_ble_eq_true rfl⟩ hK hP hD (kCtx_all _) 0 7 rfl rfl rfl rfl hl.1 (Nat.le_of_ble_eq_true rfl) dX7_endures_1 ⟨Nat.zero_le _, Nat.zero_le _⟩) hP hD hS hA (kCtx_all _) (fun _ => rfl) (fun _ H1 locs1 hw hP1 hD1 hS1 => ?_)
  have hP2 : va_P G.1 vwCl ([(h0, .inr (7, cM (upd (upd (upd Z 18 (-9)) 20 0) 21 6) q1 q2 q3 q4 q5 q6 q7 q8 q9 q10 q11 sd)), (q4, .inl (G.2.1, 55, .inl pg)), (q5, .inl (G.2.1, 55, .inl (s_X7_lay_t pg tr)))]) H1 := hP1
  have hD3 : va_D A ([(h0, .inr (7, cM (upd (upd (upd Z 18 (-9)) 20 0) 21 6) q1 q2 q3 q4 q5 q6 q7 q8 q9 q10 q11 sd)), (q4, .inl (G.2.1, 55, .inl pg)), (q5, .inl (G.2.1, 55, .inl (s_X7_lay_t pg tr)))]) := hD1
  refine lv_aload_n hx hb dX7_endures_4 rfl (lv_at hl 0 rfl) ?_
  refine lv_iload_n hx hb dX7_endures_5 rfl (lv_at hl 1 rfl) ?_
  refine va_put (ci := 7) (v := .int 0) (ty := .int) (C := RX7) (T := TX7) (N := 22) hx hb ht inX7 tyX7 tyX7_ok nmX7 hown hK.1 hP2 hD3 hS1 0 rfl rfl 18 (by decide) (ht _ q_684) (fun _ h9 => h9) rfl (by decide +kernel) rfl rfl (Nat.le_of_ble_eq_true rfl) dX7_endures_6 (fun H4 locs4 hP4 hD4 hS4 => ?_)
  have hP5 : va_P G.1 vwCl ([(h0, .inr (7, cM (upd (upd (upd (upd Z 18 (-9)) 20 0) 21 6) 18 0) q1 q2 q3 q4 q5 q6 q7 q8 q9 q10 q11 sd)), (q4, .inl (G.2.1, 55, .inl pg)), (q5, .inl (G.2.1, 55, .inl (s_X7_lay_t pg tr)))]) H4 := hP4
  have hD6 : va_D A ([(h0, .inr (7, cM (upd (upd (upd (upd Z 18 (-9)) 20 0) 21 6) 18 0) q1 q2 q3 q4 q5 q6 q7 q8 q9 q10 q11 sd)), (q4, .inl (G.2.1, 55, .inl pg)), (q5, .inl (G.2.1, 55, .inl (s_X7_lay_t pg tr)))]) := hD4
  refine lv_aload_n hx hb dX7_endures_9 rfl (lv_at hl 0 rfl) ?_
  refine lv_iload_n hx hb dX7_endures_10 rfl (lv_at hl 2 rfl) ?_
  refine va_put (ci := 7) (v := .int p1) (ty := .int) (C := RX7) (T := TX7) (N := 22) hx hb ht inX7 tyX7 tyX7_ok nmX7 hown hK.1 hP5 hD6 hS4 0 rfl rfl 19 (by decide) (ht _ q_685) (fun _ h9 => h9) rfl (by decide +kernel) rfl rfl (Nat.le_of_ble_eq_true rfl) dX7_endures_11 (fun H7 locs7 hP7 hD7 hS7 => ?_)
  have hP8 : va_P G.1 vwCl ([(h0, .inr (7, cM (upd (upd (upd (upd (upd Z 18 (-9)) 20 0) 21 6) 18 0) 19 p1) q1 q2 q3 q4 q5 q6 q7 q8 q9 q10 q11 sd)), (q4, .inl (G.2.1, 55, .inl pg)), (q5, .inl (G.2.1, 55, .inl (s_X7_lay_t pg tr)))]) H7 := hP7
  have hD9 : va_D A ([(h0, .inr (7, cM (upd (upd (upd (upd (upd Z 18 (-9)) 20 0) 21 6) 18 0) 19 p1) q1 q2 q3 q4 q5 q6 q7 q8 q9 q10 q11 sd)), (q4, .inl (G.2.1, 55, .inl pg)), (q5, .inl (G.2.1, 55, .inl (s_X7_lay_t pg tr)))]) := hD7
  refine lv_iconst (v := 1) hx hb dX7_endures_14 (by decide) ?_
  refine lv_istore_n (lv' := [(3, .int 1), (0, .ref h0), (1, .int 0), (2, .int p1)]) hx hb dX7_endures_15 rfl hl (by decide) rfl (fun ls10 hl10 => ?_)
  refine lv_iconst (v := 0) hx hb dX7_endures_16 (by decide) ?_
  refine lv_istore (lv' := [(4, .int 0), (3, .int 1), (0, .ref h0), (1, .int 0), (2, .int p1)]) hx hb dX7_endures_17 hl10 (by decide) rfl (fun ls11 hl11 => ?_)
  have lp1 : ∀ (n1 j1 : Nat) (st_1 : Int32) (Z_1 : Nat → Int32) (tr_1 : Nat → Int32), j1 + n1 = 60 → (hr_1 : r_X7_endures_0 Z pg tr p1 = l_X7_endures_0_1_r n1 j1 st_1 Z_1 tr_1) → (hZ_1 : s_X7_endures_0_Z Z pg tr p1 = l_X7_endures_0_1_Z n1 j1 st_1 Z_1 tr_1) → (htr_1 : s_X7_endures_0_tr Z pg tr p1 = l_X7_endures_0_1_tr n1 j1 st_1 Z_1 tr_1) → (hk1 : kb st_1) → ∀ (H : Heap) (locs : List Loc) (ls : Array Slot), va_P G.1 vwCl ([(h0, .inr (7, cM Z_1 q1 q2 q3 q4 q5 q6 q7 q8 q9 q10 q11 sd)), (q4, .inl (G.2.1, 55, .inl pg)), (q5, .inl (G.2.1, 55, .inl tr_1))]) H → va_D A ([(h0, .inr (7, cM Z_1 q1 q2 q3 q4 q5 q6 q7 q8 q9 q10 q11 sd)), (q4, .inl (G.2.1, 55, .inl pg)), (q5, .inl (G.2.1, 55, .inl tr_1))]) → va_S A s.heap H locs → lv_has ls 5 [(0, .ref h0), (1, .int 0), (2, .int p1), (3, .int st_1), (4, .int (nI j1))] → W p l e (kr 5) s m args below meth c H locs 0 0 (MQ below (qI G (fun (r : Int32) (u : ((Nat → Int32) × (Nat → Int32))) => r = r_X7_endures_0 Z pg tr p1 ∧ u.1 = s_X7_endures_0_Z Z pg tr p1 ∧ u.2 = s_X7_endures_0_tr Z pg tr p1) (fun u => [(h0, .inr (7, cM u.1 q1 q2 q3 q4 q5 q6 q7 q8 q9 q10 q11 sd)), (q4, .inl (G.2.1, 55, .inl pg)), (q5, .inl (G.2.1, 55, .inl u.2))]) A) args s 0 0 A) (F0 m 19 ls []) := by
    intro n1
    induction n1 with
    | zero =>
      intro j1 st_1 Z_1 tr_1 hj1 hr_1 hZ_1 htr_1 hk1 H12 locs12 ls12 hP12 hD12 hS12 hl12
      refine lv_iload hx hb dX7_endures_19 (lv_at hl12 4 rfl) ?_
      refine lv_bipush (v := 60) hx hb dX7_endures_21 (by decide) ?_
      refine lv_icmp_ge (x := nI j1) (y := 60) (tgt := 64) hx hb dX7_endures_23 (by decide) (fun (c2 : 60 ≤ nI j1) => ?_) (fun (c2 : ¬ (60 ≤ nI j1)) => absurd (kle_z rfl hj1) c2)
      refine lv_aload_n hx hb dX7_endures_64 rfl (lv_at hl12 0 rfl) ?_
      refine lv_bipush (v := (-9)) hx hb dX7_endures_65 (by decide) ?_
      refine va_put (ci := 7) (v := .int (-9)) (ty := .int) (C := RX7) (T := TX7) (N := 22) hx hb ht inX7 tyX7 tyX7_ok nmX7 hown hK.1 hP12 hD12 hS12 0 rfl rfl 18 (by decide) (ht _ q_684) (fun _ h9 => h9) rfl (by decide +kernel) rfl rfl (Nat.le_of_ble_eq_true rfl) dX7_endures_67 (fun H13 locs13 hP13 hD13 hS13 => ?_)
      have hP14 : va_P G.1 vwCl ([(h0, .inr (7, cM (upd Z_1 18 (-9)) q1 q2 q3 q4 q5 q6 q7 q8 q9 q10 q11 sd)), (q4, .inl (G.2.1, 55, .inl pg)), (q5, .inl (G.2.1, 55, .inl tr_1))]) H13 := hP13
      have hD15 : va_D A ([(h0, .inr (7, cM (upd Z_1 18 (-9)) q1 q2 q3 q4 q5 q6 q7 q8 q9 q10 q11 sd)), (q4, .inl (G.2.1, 55, .inl pg)), (q5, .inl (G.2.1, 55, .inl tr_1))]) := hD13
      refine lv_iload_n hx hb dX7_endures_70 rfl (lv_at hl12 3 rfl) ?_
      have er : r_X7_endures_0 Z pg tr p1 = st_1 := by rw [hr_1, l_X7_endures_0_1_r]
      have e0 : s_X7_endures_0_Z Z pg tr p1 = upd Z_1 18 (-9) := by rw [hZ_1, l_X7_endures_0_1_Z]
      have e1 : s_X7_endures_0_tr Z pg tr p1 = tr_1 := by rw [htr_1, l_X7_endures_0_1_tr]
      exact k_zret kx hK hP14 hD15 hS13 (u := (upd Z_1 18 (-9), tr_1)) rfl ⟨er.symm, e0.symm, e1.symm⟩ hk1 dX7_endures_71
    | succ n1 ih1 =>
      intro j1 st_1 Z_1 tr_1 hj1 hr_1 hZ_1 htr_1 hk1 H12 locs12 ls12 hP12 hD12 hS12 hl12
      refine lv_iload hx hb dX7_endures_19 (lv_at hl12 4 rfl) ?_
      refine lv_bipush (v := 60) hx hb dX7_endures_21 (by decide) ?_
      refine lv_icmp_ge (x := nI j1) (y := 60) (tgt := 64) hx hb dX7_endures_23 (by decide) (fun (c3 : 60 ≤ nI j1) => absurd c3 (kle_s rfl hj1 (by decide))) (fun (c3 : ¬ (60 ≤ nI j1)) => ?_)
      refine lv_iload_n hx hb dX7_endures_26 rfl (lv_at hl12 3 rfl) ?_
      refine lv_if_eq (x := st_1) (tgt := 64) hx hb dX7_endures_27 (by decide) (fun (c4 : st_1 = 0) => ?_) (fun (c4 : ¬ (st_1 = 0)) => ?_)
      · skip
        refine lv_aload_n hx hb dX7_endures_64 rfl (lv_at hl12 0 rfl) ?_
        refine lv_bipush (v := (-9)) hx hb dX7_endures_65 (by decide) ?_
        refine va_put (ci := 7) (v := .int (-9)) (ty := .int) (C := RX7) (T := TX7) (N := 22) hx hb ht inX7 tyX7 tyX7_ok nmX7 hown hK.1 hP12 hD12 hS12 0 rfl rfl 18 (by decide) (ht _ q_684) (fun _ h9 => h9) rfl (by decide +kernel) rfl rfl (Nat.le_of_ble_eq_true rfl) dX7_endures_67 (fun H16 locs16 hP16 hD16 hS16 => ?_)
        have hP17 : va_P G.1 vwCl ([(h0, .inr (7, cM (upd Z_1 18 (-9)) q1 q2 q3 q4 q5 q6 q7 q8 q9 q10 q11 sd)), (q4, .inl (G.2.1, 55, .inl pg)), (q5, .inl (G.2.1, 55, .inl tr_1))]) H16 := hP16
        have hD18 : va_D A ([(h0, .inr (7, cM (upd Z_1 18 (-9)) q1 q2 q3 q4 q5 q6 q7 q8 q9 q10 q11 sd)), (q4, .inl (G.2.1, 55, .inl pg)), (q5, .inl (G.2.1, 55, .inl tr_1))]) := hD16
        refine lv_iload_n hx hb dX7_endures_70 rfl (lv_at hl12 3 rfl) ?_
        have er : r_X7_endures_0 Z pg tr p1 = st_1 := by rw [hr_1, l_X7_endures_0_1_r, if_pos c4]
        have e0 : s_X7_endures_0_Z Z pg tr p1 = upd Z_1 18 (-9) := by rw [hZ_1, l_X7_endures_0_1_Z, if_pos c4]
        have e1 : s_X7_endures_0_tr Z pg tr p1 = tr_1 := by rw [htr_1, l_X7_endures_0_1_tr, if_pos c4]
        exact k_zret kx hK hP17 hD18 hS16 (u := (upd Z_1 18 (-9), tr_1)) rfl ⟨er.symm, e0.symm, e1.symm⟩ hk1 dX7_endures_71
      · skip
        refine lv_aload_n hx hb dX7_endures_30 rfl (lv_at hl12 0 rfl) ?_
        refine lv_aload_n hx hb dX7_endures_31 rfl (lv_at hl12 0 rfl) ?_
        refine va_get (ci := 7) (v := .ref q5) (C := RX7) (T := TX7) (N := 22) hx hb ht inX7 hown hK.1 hP12 0 rfl rfl 8 (by decide) (ht _ q_674) (fun _ h9 => h9) rfl dX7_endures_32 ?_
        refine k_callv (kRunV (As := [.ref q5]) (rest := []) kx (c_X7_tick l G Z_1 sd h0 q1 q2 q3 q4 q5 q6 q7 q8 q9 q10 q11 tr_1 q5) q_782 q_779 q_36 q_781 q_18 nX7_tick ⟨Nat.le_of_ble_eq_true rfl, Nat.le_of_ble_eq_true rfl⟩ hK hP12 hD12 (kCtx_places _ _ [0, 2] rfl rfl) 0 7 rfl rfl rfl rfl hl12.1 (Nat.le_of_ble_eq_true rfl) dX7_endures_35 ⟨Nat.zero_le _, Nat.zero_le _⟩) hP12 hD12 hS12 hA (kCtx_places _ _ [0, 2] rfl rfl) (fun _ => rfl) (fun u H19 locs19 hw hP19 hD19 hS19 => ?_)
        obtain ⟨F6, F7⟩ := u
        obtain ⟨hF6, hF7⟩ := hw
        have hF6 : s_X7_tick_Z Z_1 tr_1 = F6 := (show F6 = s_X7_tick_Z Z_1 tr_1 from hF6).symm
        have hF7 : s_X7_tick_f Z_1 tr_1 = F7 := (show F7 = s_X7_tick_f Z_1 tr_1 from hF7).symm
        have hP20 : va_P G.1 vwCl ([(h0, .inr (7, cM F6 q1 q2 q3 q4 q5 q6 q7 q8 q9 q10 q11 sd)), (q4, .inl (G.2.1, 55, .inl pg)), (q5, .inl (G.2.1, 55, .inl F7))]) H19 := hP19
        have hD21 : va_D A ([(h0, .inr (7, cM F6 q1 q2 q3 q4 q5 q6 q7 q8 q9 q10 q11 sd)), (q4, .inl (G.2.1, 55, .inl pg)), (q5, .inl (G.2.1, 55, .inl F7))]) := hD19
        refine lv_aload_n hx hb dX7_endures_38 rfl (lv_at hl12 0 rfl) ?_
        refine va_get (ci := 7) (v := .ref q5) (C := RX7) (T := TX7) (N := 22) hx hb ht inX7 hown hK.1 hP20 0 rfl rfl 8 (by decide) (ht _ q_674) (fun _ h9 => h9) rfl dX7_endures_39 ?_
        refine lv_bipush (v := 16) hx hb dX7_endures_42 (by decide) ?_
        refine lv_iload_n hx hb dX7_endures_44 rfl (lv_at hl12 1 rfl) ?_
        refine lv_imul hx hb dX7_endures_45 ?_
        refine k_top (y := 0) (by decide +kernel) ?_
        refine lv_iconst (v := 5) hx hb dX7_endures_46 (by decide) ?_
        refine lv_iadd hx hb dX7_endures_47 ?_
        refine k_top (y := 5) (by decide +kernel) ?_
        refine k_iald (v := (F7 5)) kx hK hP20 2 rfl 5 rfl (by decide) (by decide) rfl dX7_endures_48 ?_
        refine lv_if_eq (x := F7 5) (tgt := 56) hx hb dX7_endures_49 (by decide) (fun (c8 : F7 5 = 0) => ?_) (fun (c8 : ¬ (F7 5 = 0)) => ?_)
        · skip
          refine lv_iconst (v := 0) hx hb dX7_endures_56 (by decide) ?_
          refine lv_istore_n (lv' := [(3, .int 0), (0, .ref h0), (1, .int 0), (2, .int p1), (4, .int (nI j1))]) hx hb dX7_endures_57 rfl hl12 (by decide) rfl (fun ls22 hl22 => ?_)
          refine lv_iinc (v := nI (j1 + 1)) (lv' := [(4, .int (nI (j1 + 1))), (3, .int 0), (0, .ref h0), (1, .int 0), (2, .int p1)]) hx hb dX7_endures_58 hl22 (k := 4) rfl (nI_1 j1) (by decide) rfl (fun ls23 hl23 => ?_)
          refine lv_goto (tgt := 19) hx hb dX7_endures_61 (by decide) ?_
          subst hF6
          subst hF7
          have gr : r_X7_endures_0 Z pg tr p1 = l_X7_endures_0_1_r n1 (j1 + 1) 0 (s_X7_tick_Z Z_1 tr_1) (s_X7_tick_f Z_1 tr_1) := by rw [hr_1, l_X7_endures_0_1_r, if_neg c4, if_pos c8]
          have gZ : s_X7_endures_0_Z Z pg tr p1 = l_X7_endures_0_1_Z n1 (j1 + 1) 0 (s_X7_tick_Z Z_1 tr_1) (s_X7_tick_f Z_1 tr_1) := by rw [hZ_1, l_X7_endures_0_1_Z, if_neg c4, if_pos c8]
          have gtr : s_X7_endures_0_tr Z pg tr p1 = l_X7_endures_0_1_tr n1 (j1 + 1) 0 (s_X7_tick_Z Z_1 tr_1) (s_X7_tick_f Z_1 tr_1) := by rw [htr_1, l_X7_endures_0_1_tr, if_neg c4, if_pos c8]
          exact ih1 (j1 + 1) 0 (s_X7_tick_Z Z_1 tr_1) (s_X7_tick_f Z_1 tr_1) (by omega) gr gZ gtr kb0 _ _ _ hP20 hD21 hS19 (lv_sub hl23 [2, 3, 4, 1, 0] rfl)
        · skip
          refine lv_iconst (v := 1) hx hb dX7_endures_52 (by decide) ?_
          refine lv_goto (tgt := 57) hx hb dX7_endures_53 (by decide) ?_
          refine lv_istore_n (lv' := [(3, .int 1), (0, .ref h0), (1, .int 0), (2, .int p1), (4, .int (nI j1))]) hx hb dX7_endures_57 rfl hl12 (by decide) rfl (fun ls24 hl24 => ?_)
          refine lv_iinc (v := nI (j1 + 1)) (lv' := [(4, .int (nI (j1 + 1))), (3, .int 1), (0, .ref h0), (1, .int 0), (2, .int p1)]) hx hb dX7_endures_58 hl24 (k := 4) rfl (nI_1 j1) (by decide) rfl (fun ls25 hl25 => ?_)
          refine lv_goto (tgt := 19) hx hb dX7_endures_61 (by decide) ?_
          subst hF6
          subst hF7
          have gr : r_X7_endures_0 Z pg tr p1 = l_X7_endures_0_1_r n1 (j1 + 1) 1 (s_X7_tick_Z Z_1 tr_1) (s_X7_tick_f Z_1 tr_1) := by rw [hr_1, l_X7_endures_0_1_r, if_neg c4, if_neg c8]
          have gZ : s_X7_endures_0_Z Z pg tr p1 = l_X7_endures_0_1_Z n1 (j1 + 1) 1 (s_X7_tick_Z Z_1 tr_1) (s_X7_tick_f Z_1 tr_1) := by rw [hZ_1, l_X7_endures_0_1_Z, if_neg c4, if_neg c8]
          have gtr : s_X7_endures_0_tr Z pg tr p1 = l_X7_endures_0_1_tr n1 (j1 + 1) 1 (s_X7_tick_Z Z_1 tr_1) (s_X7_tick_f Z_1 tr_1) := by rw [htr_1, l_X7_endures_0_1_tr, if_neg c4, if_neg c8]
          exact ih1 (j1 + 1) 1 (s_X7_tick_Z Z_1 tr_1) (s_X7_tick_f Z_1 tr_1) (by omega) gr gZ gtr kb1 _ _ _ hP20 hD21 hS19 (lv_sub hl25 [2, 3, 4, 1, 0] rfl)
  have gr : r_X7_endures_0 Z pg tr p1 = l_X7_endures_0_1_r 60 0 1 (upd (upd (upd (upd (upd Z 18 (-9)) 20 0) 21 6) 18 0) 19 p1) (s_X7_lay_t pg tr) := by rw [r_X7_endures_0]
  have gZ : s_X7_endures_0_Z Z pg tr p1 = l_X7_endures_0_1_Z 60 0 1 (upd (upd (upd (upd (upd Z 18 (-9)) 20 0) 21 6) 18 0) 19 p1) (s_X7_lay_t pg tr) := by rw [s_X7_endures_0_Z]
  have gtr : s_X7_endures_0_tr Z pg tr p1 = l_X7_endures_0_1_tr 60 0 1 (upd (upd (upd (upd (upd Z 18 (-9)) 20 0) 21 6) 18 0) 19 p1) (s_X7_lay_t pg tr) := by rw [s_X7_endures_0_tr]
  exact lp1 60 0 1 (upd (upd (upd (upd (upd Z 18 (-9)) 20 0) 21 6) 18 0) 19 p1) (s_X7_lay_t pg tr) (by omega) gr gZ gtr kb1 _ _ _ hP8 hD9 hS7 (lv_sub hl11 [2, 3, 4, 1, 0] rfl)

def l_X7_noticed_1_1_r : Nat → Nat → (Nat → Int32) → (Nat → Int32) → Int32
  | 0, j1, Z_1, tr_1 => (-9)
  | n1 + 1, j1, Z_1, tr_1 => if tr_1 21 = 0 then (nI j1) else l_X7_noticed_1_1_r n1 (j1 + 1) (s_X7_tick_Z Z_1 tr_1) (s_X7_tick_f Z_1 tr_1)
def r_X7_noticed_1 (Z : Nat → Int32) (pg : Nat → Int32) (tr : Nat → Int32) : Int32 := l_X7_noticed_1_1_r 100 0 (upd (upd (upd Z 18 (-9)) 20 0) 21 6) (upd (upd (s_X7_lay_t pg tr) 32 0) 33 0)
def l_X7_noticed_1_1_Z : Nat → Nat → (Nat → Int32) → (Nat → Int32) → Nat → Int32
  | 0, j1, Z_1, tr_1 => Z_1
  | n1 + 1, j1, Z_1, tr_1 => if tr_1 21 = 0 then Z_1 else l_X7_noticed_1_1_Z n1 (j1 + 1) (s_X7_tick_Z Z_1 tr_1) (s_X7_tick_f Z_1 tr_1)
def s_X7_noticed_1_Z (Z : Nat → Int32) (pg : Nat → Int32) (tr : Nat → Int32) : Nat → Int32 := l_X7_noticed_1_1_Z 100 0 (upd (upd (upd Z 18 (-9)) 20 0) 21 6) (upd (upd (s_X7_lay_t pg tr) 32 0) 33 0)
def l_X7_noticed_1_1_tr : Nat → Nat → (Nat → Int32) → (Nat → Int32) → Nat → Int32
  | 0, j1, Z_1, tr_1 => tr_1
  | n1 + 1, j1, Z_1, tr_1 => if tr_1 21 = 0 then tr_1 else l_X7_noticed_1_1_tr n1 (j1 + 1) (s_X7_tick_Z Z_1 tr_1) (s_X7_tick_f Z_1 tr_1)
def s_X7_noticed_1_tr (Z : Nat → Int32) (pg : Nat → Int32) (tr : Nat → Int32) : Nat → Int32 := l_X7_noticed_1_1_tr 100 0 (upd (upd (upd Z 18 (-9)) 20 0) 21 6) (upd (upd (s_X7_lay_t pg tr) 32 0) 33 0)
set_option maxHeartbeats 4000000 in
set_option maxRecDepth 100000 in
theorem c_X7_noticed_1 (l : Launch) (G : kG) (Z : Nat → Int32) (sd : Int64) (h0 : Nat) (q1 : Nat) (q2 : Nat) (q3 : Nat) (q4 : Nat) (q5 : Nat) (q6 : Nat) (q7 : Nat) (q8 : Nat) (q9 : Nat) (q10 : Nat) (q11 : Nat) (pg : Nat → Int32) (tr : Nat → Int32) : cG l G yX7_noticed cX7_noticed 3 (some .int) 5 [.ref h0, .int 1] ([(h0, .inr (7, cM Z q1 q2 q3 q4 q5 q6 q7 q8 q9 q10 q11 sd)), (q4, .inl (G.2.1, 55, .inl pg)), (q5, .inl (G.2.1, 55, .inl tr))]) (qI G (fun (r : Int32) (u : ((Nat → Int32) × (Nat → Int32))) => r = r_X7_noticed_1 Z pg tr ∧ u.1 = s_X7_noticed_1_Z Z pg tr ∧ u.2 = s_X7_noticed_1_tr Z pg tr) (fun u => [(h0, .inr (7, cM u.1 q1 q2 q3 q4 q5 q6 q7 q8 q9 q10 q11 sd)), (q4, .inl (G.2.1, 55, .inl pg)), (q5, .inl (G.2.1, 55, .inl u.2))])) := by
  refine kintro (by decide) (Nat.le_of_ble_eq_true rfl) ?_
  intro p e s m args below meth c A ls kx hK hP hD hS hA hl
  have kx : kX p s m args meth c cX7_noticed 3 (some .int) RX7 := kx
  have hx := kx.1
  have hb := kx.2.1
  have hown := kx.2.2.2.2.1
  have ht := kx.2.2.2.2.2.2
  have hl : lv_has ls 3 [(0, .ref h0), (1, .int 1)] := hl
  refine lv_aload_n hx hb dX7_noticed_0 rfl (lv_at hl 0 rfl) ?_
  refine k_callv (kRunV (As := []) (rest := []) kx (c_X7_layTrial l G Z sd h0 q1 q2 q3 q4 q5 q6 q7 q8 q9 q10 q11 pg tr) q_774 q_771 q_36 q_773 q_16 nX7_layTrial ⟨Nat.le_of_ble_eq_true rfl, Nat.le_of_ble_eq_true rfl⟩ hK hP hD (kCtx_all _) 0 7 rfl rfl rfl rfl hl.1 (Nat.le_of_ble_eq_true rfl) dX7_noticed_1 ⟨Nat.zero_le _, Nat.zero_le _⟩) hP hD hS hA (kCtx_all _) (fun _ => rfl) (fun _ H1 locs1 hw hP1 hD1 hS1 => ?_)
  have hP2 : va_P G.1 vwCl ([(h0, .inr (7, cM (upd (upd (upd Z 18 (-9)) 20 0) 21 6) q1 q2 q3 q4 q5 q6 q7 q8 q9 q10 q11 sd)), (q4, .inl (G.2.1, 55, .inl pg)), (q5, .inl (G.2.1, 55, .inl (s_X7_lay_t pg tr)))]) H1 := hP1
  have hD3 : va_D A ([(h0, .inr (7, cM (upd (upd (upd Z 18 (-9)) 20 0) 21 6) q1 q2 q3 q4 q5 q6 q7 q8 q9 q10 q11 sd)), (q4, .inl (G.2.1, 55, .inl pg)), (q5, .inl (G.2.1, 55, .inl (s_X7_lay_t pg tr)))]) := hD1
  refine lv_aload_n hx hb dX7_noticed_4 rfl (lv_at hl 0 rfl) ?_
  refine va_get (ci := 7) (v := .ref q5) (C := RX7) (T := TX7) (N := 22) hx hb ht inX7 hown hK.1 hP2 0 rfl rfl 8 (by decide) (ht _ q_674) (fun _ h9 => h9) rfl dX7_noticed_5 ?_
  refine lv_bipush (v := 32) hx hb dX7_noticed_8 (by decide) ?_
  refine lv_iconst (v := 0) hx hb dX7_noticed_10 (by decide) ?_
  refine k_iast kx hK hP2 hD3 hS1 2 rfl 32 rfl (by decide) (by decide) dX7_noticed_11 (fun H4 locs4 hP4 hD4 hS4 => ?_)
  have hP5 : va_P G.1 vwCl ([(h0, .inr (7, cM (upd (upd (upd Z 18 (-9)) 20 0) 21 6) q1 q2 q3 q4 q5 q6 q7 q8 q9 q10 q11 sd)), (q4, .inl (G.2.1, 55, .inl pg)), (q5, .inl (G.2.1, 55, .inl (upd (s_X7_lay_t pg tr) 32 0)))]) H4 := hP4
  have hD6 : va_D A ([(h0, .inr (7, cM (upd (upd (upd Z 18 (-9)) 20 0) 21 6) q1 q2 q3 q4 q5 q6 q7 q8 q9 q10 q11 sd)), (q4, .inl (G.2.1, 55, .inl pg)), (q5, .inl (G.2.1, 55, .inl (upd (s_X7_lay_t pg tr) 32 0)))]) := hD4
  refine lv_aload_n hx hb dX7_noticed_12 rfl (lv_at hl 0 rfl) ?_
  refine va_get (ci := 7) (v := .ref q5) (C := RX7) (T := TX7) (N := 22) hx hb ht inX7 hown hK.1 hP5 0 rfl rfl 8 (by decide) (ht _ q_674) (fun _ h9 => h9) rfl dX7_noticed_13 ?_
  refine lv_bipush (v := 33) hx hb dX7_noticed_16 (by decide) ?_
  refine lv_iconst (v := 0) hx hb dX7_noticed_18 (by decide) ?_
  refine k_iast kx hK hP5 hD6 hS4 2 rfl 33 rfl (by decide) (by decide) dX7_noticed_19 (fun H7 locs7 hP7 hD7 hS7 => ?_)
  have hP8 : va_P G.1 vwCl ([(h0, .inr (7, cM (upd (upd (upd Z 18 (-9)) 20 0) 21 6) q1 q2 q3 q4 q5 q6 q7 q8 q9 q10 q11 sd)), (q4, .inl (G.2.1, 55, .inl pg)), (q5, .inl (G.2.1, 55, .inl (upd (upd (s_X7_lay_t pg tr) 32 0) 33 0)))]) H7 := hP7
  have hD9 : va_D A ([(h0, .inr (7, cM (upd (upd (upd Z 18 (-9)) 20 0) 21 6) q1 q2 q3 q4 q5 q6 q7 q8 q9 q10 q11 sd)), (q4, .inl (G.2.1, 55, .inl pg)), (q5, .inl (G.2.1, 55, .inl (upd (upd (s_X7_lay_t pg tr) 32 0) 33 0)))]) := hD7
  refine lv_iconst (v := 0) hx hb dX7_noticed_20 (by decide) ?_
  refine lv_istore_n (lv' := [(2, .int 0), (0, .ref h0), (1, .int 1)]) hx hb dX7_noticed_21 rfl hl (by decide) rfl (fun ls10 hl10 => ?_)
  have lp1 : ∀ (n1 j1 : Nat) (Z_1 : Nat → Int32) (tr_1 : Nat → Int32), j1 + n1 = 100 → (hr_1 : r_X7_noticed_1 Z pg tr = l_X7_noticed_1_1_r n1 j1 Z_1 tr_1) → (hZ_1 : s_X7_noticed_1_Z Z pg tr = l_X7_noticed_1_1_Z n1 j1 Z_1 tr_1) → (htr_1 : s_X7_noticed_1_tr Z pg tr = l_X7_noticed_1_1_tr n1 j1 Z_1 tr_1) → ∀ (H : Heap) (locs : List Loc) (ls : Array Slot), va_P G.1 vwCl ([(h0, .inr (7, cM Z_1 q1 q2 q3 q4 q5 q6 q7 q8 q9 q10 q11 sd)), (q4, .inl (G.2.1, 55, .inl pg)), (q5, .inl (G.2.1, 55, .inl tr_1))]) H → va_D A ([(h0, .inr (7, cM Z_1 q1 q2 q3 q4 q5 q6 q7 q8 q9 q10 q11 sd)), (q4, .inl (G.2.1, 55, .inl pg)), (q5, .inl (G.2.1, 55, .inl tr_1))]) → va_S A s.heap H locs → lv_has ls 3 [(0, .ref h0), (1, .int 1), (2, .int (nI j1))] → W p l e (kr 5) s m args below meth c H locs 0 0 (MQ below (qI G (fun (r : Int32) (u : ((Nat → Int32) × (Nat → Int32))) => r = r_X7_noticed_1 Z pg tr ∧ u.1 = s_X7_noticed_1_Z Z pg tr ∧ u.2 = s_X7_noticed_1_tr Z pg tr) (fun u => [(h0, .inr (7, cM u.1 q1 q2 q3 q4 q5 q6 q7 q8 q9 q10 q11 sd)), (q4, .inl (G.2.1, 55, .inl pg)), (q5, .inl (G.2.1, 55, .inl u.2))]) A) args s 0 0 A) (F0 m 22 ls []) := by
    intro n1
    induction n1 with
    | zero =>
      intro j1 Z_1 tr_1 hj1 hr_1 hZ_1 htr_1 H11 locs11 ls11 hP11 hD11 hS11 hl11
      refine lv_iload_n hx hb dX7_noticed_22 rfl (lv_at hl11 2 rfl) ?_
      refine lv_bipush (v := 100) hx hb dX7_noticed_23 (by decide) ?_
      refine lv_icmp_ge (x := nI j1) (y := 100) (tgt := 58) hx hb dX7_noticed_25 (by decide) (fun (c2 : 100 ≤ nI j1) => ?_) (fun (c2 : ¬ (100 ≤ nI j1)) => absurd (kle_z rfl hj1) c2)
      refine lv_bipush (v := (-9)) hx hb dX7_noticed_58 (by decide) ?_
      have er : r_X7_noticed_1 Z pg tr = (-9) := by rw [hr_1, l_X7_noticed_1_1_r]
      have e0 : s_X7_noticed_1_Z Z pg tr = Z_1 := by rw [hZ_1, l_X7_noticed_1_1_Z]
      have e1 : s_X7_noticed_1_tr Z pg tr = tr_1 := by rw [htr_1, l_X7_noticed_1_1_tr]
      exact k_iret kx hK hP11 hD11 hS11 (u := (Z_1, tr_1)) rfl ⟨er.symm, e0.symm, e1.symm⟩ dX7_noticed_60
    | succ n1 ih1 =>
      intro j1 Z_1 tr_1 hj1 hr_1 hZ_1 htr_1 H11 locs11 ls11 hP11 hD11 hS11 hl11
      refine lv_iload_n hx hb dX7_noticed_22 rfl (lv_at hl11 2 rfl) ?_
      refine lv_bipush (v := 100) hx hb dX7_noticed_23 (by decide) ?_
      refine lv_icmp_ge (x := nI j1) (y := 100) (tgt := 58) hx hb dX7_noticed_25 (by decide) (fun (c3 : 100 ≤ nI j1) => absurd c3 (kle_s rfl hj1 (by decide))) (fun (c3 : ¬ (100 ≤ nI j1)) => ?_)
      refine lv_aload_n hx hb dX7_noticed_28 rfl (lv_at hl11 0 rfl) ?_
      refine va_get (ci := 7) (v := .ref q5) (C := RX7) (T := TX7) (N := 22) hx hb ht inX7 hown hK.1 hP11 0 rfl rfl 8 (by decide) (ht _ q_674) (fun _ h9 => h9) rfl dX7_noticed_29 ?_
      refine lv_bipush (v := 16) hx hb dX7_noticed_32 (by decide) ?_
      refine lv_iload_n hx hb dX7_noticed_34 rfl (lv_at hl11 1 rfl) ?_
      refine lv_imul hx hb dX7_noticed_35 ?_
      refine k_top (y := 16) (by decide +kernel) ?_
      refine lv_iconst (v := 5) hx hb dX7_noticed_36 (by decide) ?_
      refine lv_iadd hx hb dX7_noticed_37 ?_
      refine k_top (y := 21) (by decide +kernel) ?_
      refine k_iald (v := (tr_1 21)) kx hK hP11 2 rfl 21 rfl (by decide) (by decide) rfl dX7_noticed_38 ?_
      refine lv_if_ne (x := tr_1 21) (tgt := 44) hx hb dX7_noticed_39 (by decide) (fun (c4 : ¬ (tr_1 21 = 0)) => ?_) (fun (c4 : tr_1 21 = 0) => ?_)
      · skip
        refine lv_aload_n hx hb dX7_noticed_44 rfl (lv_at hl11 0 rfl) ?_
        refine lv_aload_n hx hb dX7_noticed_45 rfl (lv_at hl11 0 rfl) ?_
        refine va_get (ci := 7) (v := .ref q5) (C := RX7) (T := TX7) (N := 22) hx hb ht inX7 hown hK.1 hP11 0 rfl rfl 8 (by decide) (ht _ q_674) (fun _ h9 => h9) rfl dX7_noticed_46 ?_
        refine k_callv (kRunV (As := [.ref q5]) (rest := []) kx (c_X7_tick l G Z_1 sd h0 q1 q2 q3 q4 q5 q6 q7 q8 q9 q10 q11 tr_1 q5) q_782 q_779 q_36 q_781 q_18 nX7_tick ⟨Nat.le_of_ble_eq_true rfl, Nat.le_of_ble_eq_true rfl⟩ hK hP11 hD11 (kCtx_places _ _ [0, 2] rfl rfl) 0 7 rfl rfl rfl rfl hl11.1 (Nat.le_of_ble_eq_true rfl) dX7_noticed_49 ⟨Nat.zero_le _, Nat.zero_le _⟩) hP11 hD11 hS11 hA (kCtx_places _ _ [0, 2] rfl rfl) (fun _ => rfl) (fun u H12 locs12 hw hP12 hD12 hS12 => ?_)
        obtain ⟨F6, F7⟩ := u
        obtain ⟨hF6, hF7⟩ := hw
        have hF6 : s_X7_tick_Z Z_1 tr_1 = F6 := (show F6 = s_X7_tick_Z Z_1 tr_1 from hF6).symm
        have hF7 : s_X7_tick_f Z_1 tr_1 = F7 := (show F7 = s_X7_tick_f Z_1 tr_1 from hF7).symm
        have hP13 : va_P G.1 vwCl ([(h0, .inr (7, cM F6 q1 q2 q3 q4 q5 q6 q7 q8 q9 q10 q11 sd)), (q4, .inl (G.2.1, 55, .inl pg)), (q5, .inl (G.2.1, 55, .inl F7))]) H12 := hP12
        have hD14 : va_D A ([(h0, .inr (7, cM F6 q1 q2 q3 q4 q5 q6 q7 q8 q9 q10 q11 sd)), (q4, .inl (G.2.1, 55, .inl pg)), (q5, .inl (G.2.1, 55, .inl F7))]) := hD12
        refine lv_iinc (v := nI (j1 + 1)) (lv' := [(2, .int (nI (j1 + 1))), (0, .ref h0), (1, .int 1)]) hx hb dX7_noticed_52 hl11 (k := 2) rfl (nI_1 j1) (by decide) rfl (fun ls15 hl15 => ?_)
        refine lv_goto (tgt := 22) hx hb dX7_noticed_55 (by decide) ?_
        subst hF6
        subst hF7
        have gr : r_X7_noticed_1 Z pg tr = l_X7_noticed_1_1_r n1 (j1 + 1) (s_X7_tick_Z Z_1 tr_1) (s_X7_tick_f Z_1 tr_1) := by rw [hr_1, l_X7_noticed_1_1_r, if_neg c4]
        have gZ : s_X7_noticed_1_Z Z pg tr = l_X7_noticed_1_1_Z n1 (j1 + 1) (s_X7_tick_Z Z_1 tr_1) (s_X7_tick_f Z_1 tr_1) := by rw [hZ_1, l_X7_noticed_1_1_Z, if_neg c4]
        have gtr : s_X7_noticed_1_tr Z pg tr = l_X7_noticed_1_1_tr n1 (j1 + 1) (s_X7_tick_Z Z_1 tr_1) (s_X7_tick_f Z_1 tr_1) := by rw [htr_1, l_X7_noticed_1_1_tr, if_neg c4]
        exact ih1 (j1 + 1) (s_X7_tick_Z Z_1 tr_1) (s_X7_tick_f Z_1 tr_1) (by omega) gr gZ gtr _ _ _ hP13 hD14 hS12 (lv_sub hl15 [1, 2, 0] rfl)
      · skip
        refine lv_iload_n hx hb dX7_noticed_42 rfl (lv_at hl11 2 rfl) ?_
        have er : r_X7_noticed_1 Z pg tr = nI j1 := by rw [hr_1, l_X7_noticed_1_1_r, if_pos c4]
        have e0 : s_X7_noticed_1_Z Z pg tr = Z_1 := by rw [hZ_1, l_X7_noticed_1_1_Z, if_pos c4]
        have e1 : s_X7_noticed_1_tr Z pg tr = tr_1 := by rw [htr_1, l_X7_noticed_1_1_tr, if_pos c4]
        exact k_iret kx hK hP11 hD11 hS11 (u := (Z_1, tr_1)) rfl ⟨er.symm, e0.symm, e1.symm⟩ dX7_noticed_43
  have gr : r_X7_noticed_1 Z pg tr = l_X7_noticed_1_1_r 100 0 (upd (upd (upd Z 18 (-9)) 20 0) 21 6) (upd (upd (s_X7_lay_t pg tr) 32 0) 33 0) := by rw [r_X7_noticed_1]
  have gZ : s_X7_noticed_1_Z Z pg tr = l_X7_noticed_1_1_Z 100 0 (upd (upd (upd Z 18 (-9)) 20 0) 21 6) (upd (upd (s_X7_lay_t pg tr) 32 0) 33 0) := by rw [s_X7_noticed_1_Z]
  have gtr : s_X7_noticed_1_tr Z pg tr = l_X7_noticed_1_1_tr 100 0 (upd (upd (upd Z 18 (-9)) 20 0) 21 6) (upd (upd (s_X7_lay_t pg tr) 32 0) 33 0) := by rw [s_X7_noticed_1_tr]
  exact lp1 100 0 (upd (upd (upd Z 18 (-9)) 20 0) 21 6) (upd (upd (s_X7_lay_t pg tr) 32 0) 33 0) (by omega) gr gZ gtr _ _ _ hP8 hD9 hS7 (lv_sub hl10 [1, 2, 0] rfl)

def l_X7_endures_1_1_r : Nat → Nat → Int32 → (Nat → Int32) → (Nat → Int32) → Int32
  | 0, j1, st_1, Z_1, tr_1 => st_1
  | n1 + 1, j1, st_1, Z_1, tr_1 => if st_1 = 0 then st_1 else if (s_X7_tick_f Z_1 tr_1) 21 = 0 then (l_X7_endures_1_1_r n1 (j1 + 1) 0 (s_X7_tick_Z Z_1 tr_1) (s_X7_tick_f Z_1 tr_1)) else l_X7_endures_1_1_r n1 (j1 + 1) 1 (s_X7_tick_Z Z_1 tr_1) (s_X7_tick_f Z_1 tr_1)
def r_X7_endures_1 (Z : Nat → Int32) (pg : Nat → Int32) (tr : Nat → Int32) (p1 : Int32) : Int32 := l_X7_endures_1_1_r 60 0 1 (upd (upd (upd (upd (upd Z 18 (-9)) 20 0) 21 6) 18 1) 19 p1) (s_X7_lay_t pg tr)
def l_X7_endures_1_1_Z : Nat → Nat → Int32 → (Nat → Int32) → (Nat → Int32) → Nat → Int32
  | 0, j1, st_1, Z_1, tr_1 => upd Z_1 18 (-9)
  | n1 + 1, j1, st_1, Z_1, tr_1 => if st_1 = 0 then (upd Z_1 18 (-9)) else if (s_X7_tick_f Z_1 tr_1) 21 = 0 then (l_X7_endures_1_1_Z n1 (j1 + 1) 0 (s_X7_tick_Z Z_1 tr_1) (s_X7_tick_f Z_1 tr_1)) else l_X7_endures_1_1_Z n1 (j1 + 1) 1 (s_X7_tick_Z Z_1 tr_1) (s_X7_tick_f Z_1 tr_1)
def s_X7_endures_1_Z (Z : Nat → Int32) (pg : Nat → Int32) (tr : Nat → Int32) (p1 : Int32) : Nat → Int32 := l_X7_endures_1_1_Z 60 0 1 (upd (upd (upd (upd (upd Z 18 (-9)) 20 0) 21 6) 18 1) 19 p1) (s_X7_lay_t pg tr)
def l_X7_endures_1_1_tr : Nat → Nat → Int32 → (Nat → Int32) → (Nat → Int32) → Nat → Int32
  | 0, j1, st_1, Z_1, tr_1 => tr_1
  | n1 + 1, j1, st_1, Z_1, tr_1 => if st_1 = 0 then tr_1 else if (s_X7_tick_f Z_1 tr_1) 21 = 0 then (l_X7_endures_1_1_tr n1 (j1 + 1) 0 (s_X7_tick_Z Z_1 tr_1) (s_X7_tick_f Z_1 tr_1)) else l_X7_endures_1_1_tr n1 (j1 + 1) 1 (s_X7_tick_Z Z_1 tr_1) (s_X7_tick_f Z_1 tr_1)
def s_X7_endures_1_tr (Z : Nat → Int32) (pg : Nat → Int32) (tr : Nat → Int32) (p1 : Int32) : Nat → Int32 := l_X7_endures_1_1_tr 60 0 1 (upd (upd (upd (upd (upd Z 18 (-9)) 20 0) 21 6) 18 1) 19 p1) (s_X7_lay_t pg tr)
set_option maxHeartbeats 4000000 in
set_option maxRecDepth 100000 in
theorem c_X7_endures_1 (l : Launch) (G : kG) (Z : Nat → Int32) (sd : Int64) (h0 : Nat) (q1 : Nat) (q2 : Nat) (q3 : Nat) (q4 : Nat) (q5 : Nat) (q6 : Nat) (q7 : Nat) (q8 : Nat) (q9 : Nat) (q10 : Nat) (q11 : Nat) (pg : Nat → Int32) (tr : Nat → Int32) (p1 : Int32) : cG l G yX7_endures cX7_endures 5 (some .boolean) 5 [.ref h0, .int 1, .int p1] ([(h0, .inr (7, cM Z q1 q2 q3 q4 q5 q6 q7 q8 q9 q10 q11 sd)), (q4, .inl (G.2.1, 55, .inl pg)), (q5, .inl (G.2.1, 55, .inl tr))]) (qI G (fun (r : Int32) (u : ((Nat → Int32) × (Nat → Int32))) => r = r_X7_endures_1 Z pg tr p1 ∧ u.1 = s_X7_endures_1_Z Z pg tr p1 ∧ u.2 = s_X7_endures_1_tr Z pg tr p1) (fun u => [(h0, .inr (7, cM u.1 q1 q2 q3 q4 q5 q6 q7 q8 q9 q10 q11 sd)), (q4, .inl (G.2.1, 55, .inl pg)), (q5, .inl (G.2.1, 55, .inl u.2))])) := by
  refine kintro (by decide) (Nat.le_of_ble_eq_true rfl) ?_
  intro p e s m args below meth c A ls kx hK hP hD hS hA hl
  have kx : kX p s m args meth c cX7_endures 5 (some .boolean) RX7 := kx
  have hx := kx.1
  have hb := kx.2.1
  have hown := kx.2.2.2.2.1
  have ht := kx.2.2.2.2.2.2
  have hl : lv_has ls 5 [(0, .ref h0), (1, .int 1), (2, .int p1)] := hl
  refine lv_aload_n hx hb dX7_endures_0 rfl (lv_at hl 0 rfl) ?_
  refine k_callv (kRunV (As := []) (rest := []) kx (c_X7_layTrial l G Z sd h0 q1 q2 q3 q4 q5 q6 q7 q8 q9 q10 q11 pg tr) q_774 q_771 q_36 q_773 q_16 nX7_layTrial ⟨Nat.le_of_ble_eq_true rfl, Nat.le_of_ble_eq_true rfl⟩ hK hP hD (kCtx_all _) 0 7 rfl rfl rfl rfl hl.1 (Nat.le_of_ble_eq_true rfl) dX7_endures_1 ⟨Nat.zero_le _, Nat.zero_le _⟩) hP hD hS hA (kCtx_all _) (fun _ => rfl) (fun _ H1 locs1 hw hP1 hD1 hS1 => ?_)
  have hP2 : va_P G.1 vwCl ([(h0, .inr (7, cM (upd (upd (upd Z 18 (-9)) 20 0) 21 6) q1 q2 q3 q4 q5 q6 q7 q8 q9 q10 q11 sd)), (q4, .inl (G.2.1, 55, .inl pg)), (q5, .inl (G.2.1, 55, .inl (s_X7_lay_t pg tr)))]) H1 := hP1
  have hD3 : va_D A ([(h0, .inr (7, cM (upd (upd (upd Z 18 (-9)) 20 0) 21 6) q1 q2 q3 q4 q5 q6 q7 q8 q9 q10 q11 sd)), (q4, .inl (G.2.1, 55, .inl pg)), (q5, .inl (G.2.1, 55, .inl (s_X7_lay_t pg tr)))]) := hD1
  refine lv_aload_n hx hb dX7_endures_4 rfl (lv_at hl 0 rfl) ?_
  refine lv_iload_n hx hb dX7_endures_5 rfl (lv_at hl 1 rfl) ?_
  refine va_put (ci := 7) (v := .int 1) (ty := .int) (C := RX7) (T := TX7) (N := 22) hx hb ht inX7 tyX7 tyX7_ok nmX7 hown hK.1 hP2 hD3 hS1 0 rfl rfl 18 (by decide) (ht _ q_684) (fun _ h9 => h9) rfl (by decide +kernel) rfl rfl (Nat.le_of_ble_eq_true rfl) dX7_endures_6 (fun H4 locs4 hP4 hD4 hS4 => ?_)
  have hP5 : va_P G.1 vwCl ([(h0, .inr (7, cM (upd (upd (upd (upd Z 18 (-9)) 20 0) 21 6) 18 1) q1 q2 q3 q4 q5 q6 q7 q8 q9 q10 q11 sd)), (q4, .inl (G.2.1, 55, .inl pg)), (q5, .inl (G.2.1, 55, .inl (s_X7_lay_t pg tr)))]) H4 := hP4
  have hD6 : va_D A ([(h0, .inr (7, cM (upd (upd (upd (upd Z 18 (-9)) 20 0) 21 6) 18 1) q1 q2 q3 q4 q5 q6 q7 q8 q9 q10 q11 sd)), (q4, .inl (G.2.1, 55, .inl pg)), (q5, .inl (G.2.1, 55, .inl (s_X7_lay_t pg tr)))]) := hD4
  refine lv_aload_n hx hb dX7_endures_9 rfl (lv_at hl 0 rfl) ?_
  refine lv_iload_n hx hb dX7_endures_10 rfl (lv_at hl 2 rfl) ?_
  refine va_put (ci := 7) (v := .int p1) (ty := .int) (C := RX7) (T := TX7) (N := 22) hx hb ht inX7 tyX7 tyX7_ok nmX7 hown hK.1 hP5 hD6 hS4 0 rfl rfl 19 (by decide) (ht _ q_685) (fun _ h9 => h9) rfl (by decide +kernel) rfl rfl (Nat.le_of_ble_eq_true rfl) dX7_endures_11 (fun H7 locs7 hP7 hD7 hS7 => ?_)
  have hP8 : va_P G.1 vwCl ([(h0, .inr (7, cM (upd (upd (upd (upd (upd Z 18 (-9)) 20 0) 21 6) 18 1) 19 p1) q1 q2 q3 q4 q5 q6 q7 q8 q9 q10 q11 sd)), (q4, .inl (G.2.1, 55, .inl pg)), (q5, .inl (G.2.1, 55, .inl (s_X7_lay_t pg tr)))]) H7 := hP7
  have hD9 : va_D A ([(h0, .inr (7, cM (upd (upd (upd (upd (upd Z 18 (-9)) 20 0) 21 6) 18 1) 19 p1) q1 q2 q3 q4 q5 q6 q7 q8 q9 q10 q11 sd)), (q4, .inl (G.2.1, 55, .inl pg)), (q5, .inl (G.2.1, 55, .inl (s_X7_lay_t pg tr)))]) := hD7
  refine lv_iconst (v := 1) hx hb dX7_endures_14 (by decide) ?_
  refine lv_istore_n (lv' := [(3, .int 1), (0, .ref h0), (1, .int 1), (2, .int p1)]) hx hb dX7_endures_15 rfl hl (by decide) rfl (fun ls10 hl10 => ?_)
  refine lv_iconst (v := 0) hx hb dX7_endures_16 (by decide) ?_
  refine lv_istore (lv' := [(4, .int 0), (3, .int 1), (0, .ref h0), (1, .int 1), (2, .int p1)]) hx hb dX7_endures_17 hl10 (by decide) rfl (fun ls11 hl11 => ?_)
  have lp1 : ∀ (n1 j1 : Nat) (st_1 : Int32) (Z_1 : Nat → Int32) (tr_1 : Nat → Int32), j1 + n1 = 60 → (hr_1 : r_X7_endures_1 Z pg tr p1 = l_X7_endures_1_1_r n1 j1 st_1 Z_1 tr_1) → (hZ_1 : s_X7_endures_1_Z Z pg tr p1 = l_X7_endures_1_1_Z n1 j1 st_1 Z_1 tr_1) → (htr_1 : s_X7_endures_1_tr Z pg tr p1 = l_X7_endures_1_1_tr n1 j1 st_1 Z_1 tr_1) → (hk1 : kb st_1) → ∀ (H : Heap) (locs : List Loc) (ls : Array Slot), va_P G.1 vwCl ([(h0, .inr (7, cM Z_1 q1 q2 q3 q4 q5 q6 q7 q8 q9 q10 q11 sd)), (q4, .inl (G.2.1, 55, .inl pg)), (q5, .inl (G.2.1, 55, .inl tr_1))]) H → va_D A ([(h0, .inr (7, cM Z_1 q1 q2 q3 q4 q5 q6 q7 q8 q9 q10 q11 sd)), (q4, .inl (G.2.1, 55, .inl pg)), (q5, .inl (G.2.1, 55, .inl tr_1))]) → va_S A s.heap H locs → lv_has ls 5 [(0, .ref h0), (1, .int 1), (2, .int p1), (3, .int st_1), (4, .int (nI j1))] → W p l e (kr 5) s m args below meth c H locs 0 0 (MQ below (qI G (fun (r : Int32) (u : ((Nat → Int32) × (Nat → Int32))) => r = r_X7_endures_1 Z pg tr p1 ∧ u.1 = s_X7_endures_1_Z Z pg tr p1 ∧ u.2 = s_X7_endures_1_tr Z pg tr p1) (fun u => [(h0, .inr (7, cM u.1 q1 q2 q3 q4 q5 q6 q7 q8 q9 q10 q11 sd)), (q4, .inl (G.2.1, 55, .inl pg)), (q5, .inl (G.2.1, 55, .inl u.2))]) A) args s 0 0 A) (F0 m 19 ls []) := by
    intro n1
    induction n1 with
    | zero =>
      intro j1 st_1 Z_1 tr_1 hj1 hr_1 hZ_1 htr_1 hk1 H12 locs12 ls12 hP12 hD12 hS12 hl12
      refine lv_iload hx hb dX7_endures_19 (lv_at hl12 4 rfl) ?_
      refine lv_bipush (v := 60) hx hb dX7_endures_21 (by decide) ?_
      refine lv_icmp_ge (x := nI j1) (y := 60) (tgt := 64) hx hb dX7_endures_23 (by decide) (fun (c2 : 60 ≤ nI j1) => ?_) (fun (c2 : ¬ (60 ≤ nI j1)) => absurd (kle_z rfl hj1) c2)
      refine lv_aload_n hx hb dX7_endures_64 rfl (lv_at hl12 0 rfl) ?_
      refine lv_bipush (v := (-9)) hx hb dX7_endures_65 (by decide) ?_
      refine va_put (ci := 7) (v := .int (-9)) (ty := .int) (C := RX7) (T := TX7) (N := 22) hx hb ht inX7 tyX7 tyX7_ok nmX7 hown hK.1 hP12 hD12 hS12 0 rfl rfl 18 (by decide) (ht _ q_684) (fun _ h9 => h9) rfl (by decide +kernel) rfl rfl (Nat.le_of_ble_eq_true rfl) dX7_endures_67 (fun H13 locs13 hP13 hD13 hS13 => ?_)
      have hP14 : va_P G.1 vwCl ([(h0, .inr (7, cM (upd Z_1 18 (-9)) q1 q2 q3 q4 q5 q6 q7 q8 q9 q10 q11 sd)), (q4, .inl (G.2.1, 55, .inl pg)), (q5, .inl (G.2.1, 55, .inl tr_1))]) H13 := hP13
      have hD15 : va_D A ([(h0, .inr (7, cM (upd Z_1 18 (-9)) q1 q2 q3 q4 q5 q6 q7 q8 q9 q10 q11 sd)), (q4, .inl (G.2.1, 55, .inl pg)), (q5, .inl (G.2.1, 55, .inl tr_1))]) := hD13
      refine lv_iload_n hx hb dX7_endures_70 rfl (lv_at hl12 3 rfl) ?_
      have er : r_X7_endures_1 Z pg tr p1 = st_1 := by rw [hr_1, l_X7_endures_1_1_r]
      have e0 : s_X7_endures_1_Z Z pg tr p1 = upd Z_1 18 (-9) := by rw [hZ_1, l_X7_endures_1_1_Z]
      have e1 : s_X7_endures_1_tr Z pg tr p1 = tr_1 := by rw [htr_1, l_X7_endures_1_1_tr]
      exact k_zret kx hK hP14 hD15 hS13 (u := (upd Z_1 18 (-9), tr_1)) rfl ⟨er.symm, e0.symm, e1.symm⟩ hk1 dX7_endures_71
    | succ n1 ih1 =>
      intro j1 st_1 Z_1 tr_1 hj1 hr_1 hZ_1 htr_1 hk1 H12 locs12 ls12 hP12 hD12 hS12 hl12
      refine lv_iload hx hb dX7_endures_19 (lv_at hl12 4 rfl) ?_
      refine lv_bipush (v := 60) hx hb dX7_endures_21 (by decide) ?_
      refine lv_icmp_ge (x := nI j1) (y := 60) (tgt := 64) hx hb dX7_endures_23 (by decide) (fun (c3 : 60 ≤ nI j1) => absurd c3 (kle_s rfl hj1 (by decide))) (fun (c3 : ¬ (60 ≤ nI j1)) => ?_)
      refine lv_iload_n hx hb dX7_endures_26 rfl (lv_at hl12 3 rfl) ?_
      refine lv_if_eq (x := st_1) (tgt := 64) hx hb dX7_endures_27 (by decide) (fun (c4 : st_1 = 0) => ?_) (fun (c4 : ¬ (st_1 = 0)) => ?_)
      · skip
        refine lv_aload_n hx hb dX7_endures_64 rfl (lv_at hl12 0 rfl) ?_
        refine lv_bipush (v := (-9)) hx hb dX7_endures_65 (by decide) ?_
        refine va_put (ci := 7) (v := .int (-9)) (ty := .int) (C := RX7) (T := TX7) (N := 22) hx hb ht inX7 tyX7 tyX7_ok nmX7 hown hK.1 hP12 hD12 hS12 0 rfl rfl 18 (by decide) (ht _ q_684) (fun _ h9 => h9) rfl (by decide +kernel) rfl rfl (Nat.le_of_ble_eq_true rfl) dX7_endures_67 (fun H16 locs16 hP16 hD16 hS16 => ?_)
        have hP17 : va_P G.1 vwCl ([(h0, .inr (7, cM (upd Z_1 18 (-9)) q1 q2 q3 q4 q5 q6 q7 q8 q9 q10 q11 sd)), (q4, .inl (G.2.1, 55, .inl pg)), (q5, .inl (G.2.1, 55, .inl tr_1))]) H16 := hP16
        have hD18 : va_D A ([(h0, .inr (7, cM (upd Z_1 18 (-9)) q1 q2 q3 q4 q5 q6 q7 q8 q9 q10 q11 sd)), (q4, .inl (G.2.1, 55, .inl pg)), (q5, .inl (G.2.1, 55, .inl tr_1))]) := hD16
        refine lv_iload_n hx hb dX7_endures_70 rfl (lv_at hl12 3 rfl) ?_
        have er : r_X7_endures_1 Z pg tr p1 = st_1 := by rw [hr_1, l_X7_endures_1_1_r, if_pos c4]
        have e0 : s_X7_endures_1_Z Z pg tr p1 = upd Z_1 18 (-9) := by rw [hZ_1, l_X7_endures_1_1_Z, if_pos c4]
        have e1 : s_X7_endures_1_tr Z pg tr p1 = tr_1 := by rw [htr_1, l_X7_endures_1_1_tr, if_pos c4]
        exact k_zret kx hK hP17 hD18 hS16 (u := (upd Z_1 18 (-9), tr_1)) rfl ⟨er.symm, e0.symm, e1.symm⟩ hk1 dX7_endures_71
      · skip
        refine lv_aload_n hx hb dX7_endures_30 rfl (lv_at hl12 0 rfl) ?_
        refine lv_aload_n hx hb dX7_endures_31 rfl (lv_at hl12 0 rfl) ?_
        refine va_get (ci := 7) (v := .ref q5) (C := RX7) (T := TX7) (N := 22) hx hb ht inX7 hown hK.1 hP12 0 rfl rfl 8 (by decide) (ht _ q_674) (fun _ h9 => h9) rfl dX7_endures_32 ?_
        refine k_callv (kRunV (As := [.ref q5]) (rest := []) kx (c_X7_tick l G Z_1 sd h0 q1 q2 q3 q4 q5 q6 q7 q8 q9 q10 q11 tr_1 q5) q_782 q_779 q_36 q_781 q_18 nX7_tick ⟨Nat.le_of_ble_eq_true rfl, Nat.le_of_ble_eq_true rfl⟩ hK hP12 hD12 (kCtx_places _ _ [0, 2] rfl rfl) 0 7 rfl rfl rfl rfl hl12.1 (Nat.le_of_ble_eq_true rfl) dX7_endures_35 ⟨Nat.zero_le _, Nat.zero_le _⟩) hP12 hD12 hS12 hA (kCtx_places _ _ [0, 2] rfl rfl) (fun _ => rfl) (fun u H19 locs19 hw hP19 hD19 hS19 => ?_)
        obtain ⟨F6, F7⟩ := u
        obtain ⟨hF6, hF7⟩ := hw
        have hF6 : s_X7_tick_Z Z_1 tr_1 = F6 := (show F6 = s_X7_tick_Z Z_1 tr_1 from hF6).symm
        have hF7 : s_X7_tick_f Z_1 tr_1 = F7 := (show F7 = s_X7_tick_f Z_1 tr_1 from hF7).symm
        have hP20 : va_P G.1 vwCl ([(h0, .inr (7, cM F6 q1 q2 q3 q4 q5 q6 q7 q8 q9 q10 q11 sd)), (q4, .inl (G.2.1, 55, .inl pg)), (q5, .inl (G.2.1, 55, .inl F7))]) H19 := hP19
        have hD21 : va_D A ([(h0, .inr (7, cM F6 q1 q2 q3 q4 q5 q6 q7 q8 q9 q10 q11 sd)), (q4, .inl (G.2.1, 55, .inl pg)), (q5, .inl (G.2.1, 55, .inl F7))]) := hD19
        refine lv_aload_n hx hb dX7_endures_38 rfl (lv_at hl12 0 rfl) ?_
        refine va_get (ci := 7) (v := .ref q5) (C := RX7) (T := TX7) (N := 22) hx hb ht inX7 hown hK.1 hP20 0 rfl rfl 8 (by decide) (ht _ q_674) (fun _ h9 => h9) rfl dX7_endures_39 ?_
        refine lv_bipush (v := 16) hx hb dX7_endures_42 (by decide) ?_
        refine lv_iload_n hx hb dX7_endures_44 rfl (lv_at hl12 1 rfl) ?_
        refine lv_imul hx hb dX7_endures_45 ?_
        refine k_top (y := 16) (by decide +kernel) ?_
        refine lv_iconst (v := 5) hx hb dX7_endures_46 (by decide) ?_
        refine lv_iadd hx hb dX7_endures_47 ?_
        refine k_top (y := 21) (by decide +kernel) ?_
        refine k_iald (v := (F7 21)) kx hK hP20 2 rfl 21 rfl (by decide) (by decide) rfl dX7_endures_48 ?_
        refine lv_if_eq (x := F7 21) (tgt := 56) hx hb dX7_endures_49 (by decide) (fun (c8 : F7 21 = 0) => ?_) (fun (c8 : ¬ (F7 21 = 0)) => ?_)
        · skip
          refine lv_iconst (v := 0) hx hb dX7_endures_56 (by decide) ?_
          refine lv_istore_n (lv' := [(3, .int 0), (0, .ref h0), (1, .int 1), (2, .int p1), (4, .int (nI j1))]) hx hb dX7_endures_57 rfl hl12 (by decide) rfl (fun ls22 hl22 => ?_)
          refine lv_iinc (v := nI (j1 + 1)) (lv' := [(4, .int (nI (j1 + 1))), (3, .int 0), (0, .ref h0), (1, .int 1), (2, .int p1)]) hx hb dX7_endures_58 hl22 (k := 4) rfl (nI_1 j1) (by decide) rfl (fun ls23 hl23 => ?_)
          refine lv_goto (tgt := 19) hx hb dX7_endures_61 (by decide) ?_
          subst hF6
          subst hF7
          have gr : r_X7_endures_1 Z pg tr p1 = l_X7_endures_1_1_r n1 (j1 + 1) 0 (s_X7_tick_Z Z_1 tr_1) (s_X7_tick_f Z_1 tr_1) := by rw [hr_1, l_X7_endures_1_1_r, if_neg c4, if_pos c8]
          have gZ : s_X7_endures_1_Z Z pg tr p1 = l_X7_endures_1_1_Z n1 (j1 + 1) 0 (s_X7_tick_Z Z_1 tr_1) (s_X7_tick_f Z_1 tr_1) := by rw [hZ_1, l_X7_endures_1_1_Z, if_neg c4, if_pos c8]
          have gtr : s_X7_endures_1_tr Z pg tr p1 = l_X7_endures_1_1_tr n1 (j1 + 1) 0 (s_X7_tick_Z Z_1 tr_1) (s_X7_tick_f Z_1 tr_1) := by rw [htr_1, l_X7_endures_1_1_tr, if_neg c4, if_pos c8]
          exact ih1 (j1 + 1) 0 (s_X7_tick_Z Z_1 tr_1) (s_X7_tick_f Z_1 tr_1) (by omega) gr gZ gtr kb0 _ _ _ hP20 hD21 hS19 (lv_sub hl23 [2, 3, 4, 1, 0] rfl)
        · skip
          refine lv_iconst (v := 1) hx hb dX7_endures_52 (by decide) ?_
          refine lv_goto (tgt := 57) hx hb dX7_endures_53 (by decide) ?_
          refine lv_istore_n (lv' := [(3, .int 1), (0, .ref h0), (1, .int 1), (2, .int p1), (4, .int (nI j1))]) hx hb dX7_endures_57 rfl hl12 (by decide) rfl (fun ls24 hl24 => ?_)
          refine lv_iinc (v := nI (j1 + 1)) (lv' := [(4, .int (nI (j1 + 1))), (3, .int 1), (0, .ref h0), (1, .int 1), (2, .int p1)]) hx hb dX7_endures_58 hl24 (k := 4) rfl (nI_1 j1) (by decide) rfl (fun ls25 hl25 => ?_)
          refine lv_goto (tgt := 19) hx hb dX7_endures_61 (by decide) ?_
          subst hF6
          subst hF7
          have gr : r_X7_endures_1 Z pg tr p1 = l_X7_endures_1_1_r n1 (j1 + 1) 1 (s_X7_tick_Z Z_1 tr_1) (s_X7_tick_f Z_1 tr_1) := by rw [hr_1, l_X7_endures_1_1_r, if_neg c4, if_neg c8]
          have gZ : s_X7_endures_1_Z Z pg tr p1 = l_X7_endures_1_1_Z n1 (j1 + 1) 1 (s_X7_tick_Z Z_1 tr_1) (s_X7_tick_f Z_1 tr_1) := by rw [hZ_1, l_X7_endures_1_1_Z, if_neg c4, if_neg c8]
          have gtr : s_X7_endures_1_tr Z pg tr p1 = l_X7_endures_1_1_tr n1 (j1 + 1) 1 (s_X7_tick_Z Z_1 tr_1) (s_X7_tick_f Z_1 tr_1) := by rw [htr_1, l_X7_endures_1_1_tr, if_neg c4, if_neg c8]
          exact ih1 (j1 + 1) 1 (s_X7_tick_Z Z_1 tr_1) (s_X7_tick_f Z_1 tr_1) (by omega) gr gZ gtr kb1 _ _ _ hP20 hD21 hS19 (lv_sub hl25 [2, 3, 4, 1, 0] rfl)
  have gr : r_X7_endures_1 Z pg tr p1 = l_X7_endures_1_1_r 60 0 1 (upd (upd (upd (upd (upd Z 18 (-9)) 20 0) 21 6) 18 1) 19 p1) (s_X7_lay_t pg tr) := by rw [r_X7_endures_1]
  have gZ : s_X7_endures_1_Z Z pg tr p1 = l_X7_endures_1_1_Z 60 0 1 (upd (upd (upd (upd (upd Z 18 (-9)) 20 0) 21 6) 18 1) 19 p1) (s_X7_lay_t pg tr) := by rw [s_X7_endures_1_Z]
  have gtr : s_X7_endures_1_tr Z pg tr p1 = l_X7_endures_1_1_tr 60 0 1 (upd (upd (upd (upd (upd Z 18 (-9)) 20 0) 21 6) 18 1) 19 p1) (s_X7_lay_t pg tr) := by rw [s_X7_endures_1_tr]
  exact lp1 60 0 1 (upd (upd (upd (upd (upd Z 18 (-9)) 20 0) 21 6) 18 1) 19 p1) (s_X7_lay_t pg tr) (by omega) gr gZ gtr kb1 _ _ _ hP8 hD9 hS7 (lv_sub hl11 [2, 3, 4, 1, 0] rfl)

def l_X7_endured_0_1_r (pg : Nat → Int32) : Nat → Nat → Int32 → (Nat → Int32) → (Nat → Int32) → Int32
  | 0, j1, mo_1, Z_1, tr_1 => mo_1
  | n1 + 1, j1, mo_1, Z_1, tr_1 => if (r_X7_endures_0 Z_1 pg tr_1 (nI j1)) = 0 then (l_X7_endured_0_1_r pg n1 (j1 + 1) mo_1 (s_X7_endures_0_Z Z_1 pg tr_1 (nI j1)) (s_X7_endures_0_tr Z_1 pg tr_1 (nI j1))) else l_X7_endured_0_1_r pg n1 (j1 + 1) (nI j1) (s_X7_endures_0_Z Z_1 pg tr_1 (nI j1)) (s_X7_endures_0_tr Z_1 pg tr_1 (nI j1))
def r_X7_endured_0 (Z : Nat → Int32) (pg : Nat → Int32) (tr : Nat → Int32) : Int32 := if pg 5 = 0 then (-9) else if (r_X7_endures_0 Z pg tr 0) = 0 then (-9) else l_X7_endured_0_1_r pg 5 1 0 (s_X7_endures_0_Z Z pg tr 0) (s_X7_endures_0_tr Z pg tr 0)
def l_X7_endured_0_1_Z (pg : Nat → Int32) : Nat → Nat → Int32 → (Nat → Int32) → (Nat → Int32) → Nat → Int32
  | 0, j1, mo_1, Z_1, tr_1 => Z_1
  | n1 + 1, j1, mo_1, Z_1, tr_1 => if (r_X7_endures_0 Z_1 pg tr_1 (nI j1)) = 0 then (l_X7_endured_0_1_Z pg n1 (j1 + 1) mo_1 (s_X7_endures_0_Z Z_1 pg tr_1 (nI j1)) (s_X7_endures_0_tr Z_1 pg tr_1 (nI j1))) else l_X7_endured_0_1_Z pg n1 (j1 + 1) (nI j1) (s_X7_endures_0_Z Z_1 pg tr_1 (nI j1)) (s_X7_endures_0_tr Z_1 pg tr_1 (nI j1))
def s_X7_endured_0_Z (Z : Nat → Int32) (pg : Nat → Int32) (tr : Nat → Int32) : Nat → Int32 := if pg 5 = 0 then Z else if (r_X7_endures_0 Z pg tr 0) = 0 then (s_X7_endures_0_Z Z pg tr 0) else l_X7_endured_0_1_Z pg 5 1 0 (s_X7_endures_0_Z Z pg tr 0) (s_X7_endures_0_tr Z pg tr 0)
def l_X7_endured_0_1_tr (pg : Nat → Int32) : Nat → Nat → Int32 → (Nat → Int32) → (Nat → Int32) → Nat → Int32
  | 0, j1, mo_1, Z_1, tr_1 => tr_1
  | n1 + 1, j1, mo_1, Z_1, tr_1 => if (r_X7_endures_0 Z_1 pg tr_1 (nI j1)) = 0 then (l_X7_endured_0_1_tr pg n1 (j1 + 1) mo_1 (s_X7_endures_0_Z Z_1 pg tr_1 (nI j1)) (s_X7_endures_0_tr Z_1 pg tr_1 (nI j1))) else l_X7_endured_0_1_tr pg n1 (j1 + 1) (nI j1) (s_X7_endures_0_Z Z_1 pg tr_1 (nI j1)) (s_X7_endures_0_tr Z_1 pg tr_1 (nI j1))
def s_X7_endured_0_tr (Z : Nat → Int32) (pg : Nat → Int32) (tr : Nat → Int32) : Nat → Int32 := if pg 5 = 0 then tr else if (r_X7_endures_0 Z pg tr 0) = 0 then (s_X7_endures_0_tr Z pg tr 0) else l_X7_endured_0_1_tr pg 5 1 0 (s_X7_endures_0_Z Z pg tr 0) (s_X7_endures_0_tr Z pg tr 0)
set_option maxHeartbeats 4000000 in
set_option maxRecDepth 100000 in
theorem c_X7_endured_0 (l : Launch) (G : kG) (Z : Nat → Int32) (sd : Int64) (h0 : Nat) (q1 : Nat) (q2 : Nat) (q3 : Nat) (q4 : Nat) (q5 : Nat) (q6 : Nat) (q7 : Nat) (q8 : Nat) (q9 : Nat) (q10 : Nat) (q11 : Nat) (pg : Nat → Int32) (tr : Nat → Int32) : cG l G yX7_endured cX7_endured 4 (some .int) 6 [.ref h0, .int 0] ([(h0, .inr (7, cM Z q1 q2 q3 q4 q5 q6 q7 q8 q9 q10 q11 sd)), (q4, .inl (G.2.1, 55, .inl pg)), (q5, .inl (G.2.1, 55, .inl tr))]) (qI G (fun (r : Int32) (u : ((Nat → Int32) × (Nat → Int32))) => r = r_X7_endured_0 Z pg tr ∧ u.1 = s_X7_endured_0_Z Z pg tr ∧ u.2 = s_X7_endured_0_tr Z pg tr) (fun u => [(h0, .inr (7, cM u.1 q1 q2 q3 q4 q5 q6 q7 q8 q9 q10 q11 sd)), (q4, .inl (G.2.1, 55, .inl pg)), (q5, .inl (G.2.1, 55, .inl u.2))])) := by
  refine kintro (by decide) (Nat.le_of_ble_eq_true rfl) ?_
  intro p e s m args below meth c A ls kx hK hP hD hS hA hl
  have kx : kX p s m args meth c cX7_endured 4 (some .int) RX7 := kx
  have hx := kx.1
  have hb := kx.2.1
  have hown := kx.2.2.2.2.1
  have ht := kx.2.2.2.2.2.2
  have hl : lv_has ls 4 [(0, .ref h0), (1, .int 0)] := hl
  refine lv_aload_n hx hb dX7_endured_0 rfl (lv_at hl 0 rfl) ?_
  refine va_get (ci := 7) (v := .ref q4) (C := RX7) (T := TX7) (N := 22) hx hb ht inX7 hown hK.1 hP 0 rfl rfl 7 (by decide) (ht _ q_673) (fun _ h9 => h9) rfl dX7_endured_1 ?_
  refine lv_bipush (v := 16) hx hb dX7_endured_4 (by decide) ?_
  refine lv_iload_n hx hb dX7_endured_6 rfl (lv_at hl 1 rfl) ?_
  refine lv_imul hx hb dX7_endured_7 ?_
  refine k_top (y := 0) (by decide +kernel) ?_
  refine lv_iconst (v := 5) hx hb dX7_endured_8 (by decide) ?_
  refine lv_iadd hx hb dX7_endured_9 ?_
  refine k_top (y := 5) (by decide +kernel) ?_
  refine k_iald (v := (pg 5)) kx hK hP 1 rfl 5 rfl (by decide) (by decide) rfl dX7_endured_10 ?_
  refine lv_if_eq (x := pg 5) (tgt := 23) hx hb dX7_endured_11 (by decide) (fun (c1 : pg 5 = 0) => ?_) (fun (c1 : ¬ (pg 5 = 0)) => ?_)
  · skip
    refine lv_bipush (v := (-9)) hx hb dX7_endured_23 (by decide) ?_
    have er : r_X7_endured_0 Z pg tr = (-9) := by rw [r_X7_endured_0, if_pos c1]
    have e0 : s_X7_endured_0_Z Z pg tr = Z := by rw [s_X7_endured_0_Z, if_pos c1]
    have e1 : s_X7_endured_0_tr Z pg tr = tr := by rw [s_X7_endured_0_tr, if_pos c1]
    exact k_iret kx hK hP hD hS (u := (Z, tr)) rfl ⟨er.symm, e0.symm, e1.symm⟩ dX7_endured_25
  · skip
    refine lv_aload_n hx hb dX7_endured_14 rfl (lv_at hl 0 rfl) ?_
    refine lv_iload_n hx hb dX7_endured_15 rfl (lv_at hl 1 rfl) ?_
    refine lv_iconst (v := 0) hx hb dX7_endured_16 (by decide) ?_
    refine k_calli (kRunV (As := [.int 0, .int 0]) (rest := []) kx (c_X7_endures_0 l G Z sd h0 q1 q2 q3 q4 q5 q6 q7 q8 q9 q10 q11 pg tr 0) q_837 q_834 q_36 q_836 q_23 nX7_endures ⟨Nat.le_of_ble_eq_true rfl, Nat.le_of_ble_eq_true rfl⟩ hK hP hD (kCtx_all _) 0 7 rfl rfl rfl rfl hl.1 (Nat.le_of_ble_eq_true rfl) dX7_endured_17 ⟨Nat.zero_le _, Nat.zero_le _⟩) hP hD hS hA (kCtx_all _) (fun _ => rfl) (fun r2 u H1 locs1 hw hP1 hD1 hS1 => ?_)
    obtain ⟨F3, F4⟩ := u
    obtain ⟨hr2, hF3, hF4⟩ := hw
    have hr2 : r_X7_endures_0 Z pg tr 0 = r2 := (show r2 = r_X7_endures_0 Z pg tr 0 from hr2).symm
    have hF3 : s_X7_endures_0_Z Z pg tr 0 = F3 := (show F3 = s_X7_endures_0_Z Z pg tr 0 from hF3).symm
    have hF4 : s_X7_endures_0_tr Z pg tr 0 = F4 := (show F4 = s_X7_endures_0_tr Z pg tr 0 from hF4).symm
    have hP2 : va_P G.1 vwCl ([(h0, .inr (7, cM F3 q1 q2 q3 q4 q5 q6 q7 q8 q9 q10 q11 sd)), (q4, .inl (G.2.1, 55, .inl pg)), (q5, .inl (G.2.1, 55, .inl F4))]) H1 := hP1
    have hD3 : va_D A ([(h0, .inr (7, cM F3 q1 q2 q3 q4 q5 q6 q7 q8 q9 q10 q11 sd)), (q4, .inl (G.2.1, 55, .inl pg)), (q5, .inl (G.2.1, 55, .inl F4))]) := hD1
    refine lv_if_ne (x := r2) (tgt := 26) hx hb dX7_endured_20 (by decide) (fun (c5 : ¬ (r2 = 0)) => ?_) (fun (c5 : r2 = 0) => ?_)
    · skip
      refine lv_iconst (v := 0) hx hb dX7_endured_26 (by decide) ?_
      refine lv_istore_n (lv' := [(2, .int 0), (0, .ref h0), (1, .int 0)]) hx hb dX7_endured_27 rfl hl (by decide) rfl (fun ls4 hl4 => ?_)
      refine lv_iconst (v := 1) hx hb dX7_endured_28 (by decide) ?_
      refine lv_istore_n (lv' := [(3, .int 1), (2, .int 0), (0, .ref h0), (1, .int 0)]) hx hb dX7_endured_29 rfl hl4 (by decide) rfl (fun ls5 hl5 => ?_)
      subst hF3
      subst hF4
      subst hr2
      have lp1 : ∀ (n1 j1 : Nat) (mo_1 : Int32) (Z_1 : Nat → Int32) (tr_1 : Nat → Int32), j1 + n1 = 6 → (hr_1 : r_X7_endured_0 Z pg tr = l_X7_endured_0_1_r pg n1 j1 mo_1 Z_1 tr_1) → (hZ_1 : s_X7_endured_0_Z Z pg tr = l_X7_endured_0_1_Z pg n1 j1 mo_1 Z_1 tr_1) → (htr_1 : s_X7_endured_0_tr Z pg tr = l_X7_endured_0_1_tr pg n1 j1 mo_1 Z_1 tr_1) → ∀ (H : Heap) (locs : List Loc) (ls : Array Slot), va_P G.1 vwCl ([(h0, .inr (7, cM Z_1 q1 q2 q3 q4 q5 q6 q7 q8 q9 q10 q11 sd)), (q4, .inl (G.2.1, 55, .inl pg)), (q5, .inl (G.2.1, 55, .inl tr_1))]) H → va_D A ([(h0, .inr (7, cM Z_1 q1 q2 q3 q4 q5 q6 q7 q8 q9 q10 q11 sd)), (q4, .inl (G.2.1, 55, .inl pg)), (q5, .inl (G.2.1, 55, .inl tr_1))]) → va_S A s.heap H locs → lv_has ls 4 [(0, .ref h0), (1, .int 0), (2, .int mo_1), (3, .int (nI j1))] → W p l e (kr 6) s m args below meth c H locs 0 0 (MQ below (qI G (fun (r : Int32) (u : ((Nat → Int32) × (Nat → Int32))) => r = r_X7_endured_0 Z pg tr ∧ u.1 = s_X7_endured_0_Z Z pg tr ∧ u.2 = s_X7_endured_0_tr Z pg tr) (fun u => [(h0, .inr (7, cM u.1 q1 q2 q3 q4 q5 q6 q7 q8 q9 q10 q11 sd)), (q4, .inl (G.2.1, 55, .inl pg)), (q5, .inl (G.2.1, 55, .inl u.2))]) A) args s 0 0 A) (F0 m 30 ls []) := by
        intro n1
        induction n1 with
        | zero =>
          intro j1 mo_1 Z_1 tr_1 hj1 hr_1 hZ_1 htr_1 H6 locs6 ls6 hP6 hD6 hS6 hl6
          refine lv_iload_n hx hb dX7_endured_30 rfl (lv_at hl6 3 rfl) ?_
          refine lv_bipush (v := 6) hx hb dX7_endured_31 (by decide) ?_
          refine lv_icmp_ge (x := nI j1) (y := 6) (tgt := 57) hx hb dX7_endured_33 (by decide) (fun (c6 : 6 ≤ nI j1) => ?_) (fun (c6 : ¬ (6 ≤ nI j1)) => absurd (kle_z rfl hj1) c6)
          refine lv_iload_n hx hb dX7_endured_57 rfl (lv_at hl6 2 rfl) ?_
          have er : r_X7_endured_0 Z pg tr = mo_1 := by rw [hr_1, l_X7_endured_0_1_r]
          have e0 : s_X7_endured_0_Z Z pg tr = Z_1 := by rw [hZ_1, l_X7_endured_0_1_Z]
          have e1 : s_X7_endured_0_tr Z pg tr = tr_1 := by rw [htr_1, l_X7_endured_0_1_tr]
          exact k_iret kx hK hP6 hD6 hS6 (u := (Z_1, tr_1)) rfl ⟨er.symm, e0.symm, e1.symm⟩ dX7_endured_58
        | succ n1 ih1 =>
          intro j1 mo_1 Z_1 tr_1 hj1 hr_1 hZ_1 htr_1 H6 locs6 ls6 hP6 hD6 hS6 hl6
          refine lv_iload_n hx hb dX7_endured_30 rfl (lv_at hl6 3 rfl) ?_
          refine lv_bipush (v := 6) hx hb dX7_endured_31 (by decide) ?_
          refine lv_icmp_ge (x := nI j1) (y := 6) (tgt := 57) hx hb dX7_endured_33 (by decide) (fun (c7 : 6 ≤ nI j1) => absurd c7 (kle_s rfl hj1 (by decide))) (fun (c7 : ¬ (6 ≤ nI j1)) => ?_)
          refine lv_aload_n hx hb dX7_endured_36 rfl (lv_at hl6 0 rfl) ?_
          refine lv_iload_n hx hb dX7_endured_37 rfl (lv_at hl6 1 rfl) ?_
          refine lv_iload_n hx hb dX7_endured_38 rfl (lv_at hl6 3 rfl) ?_
          refine k_calli (kRunV (As := [.int 0, .int (nI j1)]) (rest := []) kx (c_X7_endures_0 l G Z_1 sd h0 q1 q2 q3 q4 q5 q6 q7 q8 q9 q10 q11 pg tr_1 (nI j1)) q_837 q_834 q_36 q_836 q_23 nX7_endures ⟨Nat.le_of_ble_eq_true rfl, Nat.le_of_ble_eq_true rfl⟩ hK hP6 hD6 (kCtx_all _) 0 7 rfl rfl rfl rfl hl6.1 (Nat.le_of_ble_eq_true rfl) dX7_endured_39 ⟨Nat.zero_le _, Nat.zero_le _⟩) hP6 hD6 hS6 hA (kCtx_all _) (fun _ => rfl) (fun r8 u H7 locs7 hw hP7 hD7 hS7 => ?_)
          obtain ⟨F9, F10⟩ := u
          obtain ⟨hr8, hF9, hF10⟩ := hw
          have hr8 : r_X7_endures_0 Z_1 pg tr_1 (nI j1) = r8 := (show r8 = r_X7_endures_0 Z_1 pg tr_1 (nI j1) from hr8).symm
          have hF9 : s_X7_endures_0_Z Z_1 pg tr_1 (nI j1) = F9 := (show F9 = s_X7_endures_0_Z Z_1 pg tr_1 (nI j1) from hF9).symm
          have hF10 : s_X7_endures_0_tr Z_1 pg tr_1 (nI j1) = F10 := (show F10 = s_X7_endures_0_tr Z_1 pg tr_1 (nI j1) from hF10).symm
          have hP8 : va_P G.1 vwCl ([(h0, .inr (7, cM F9 q1 q2 q3 q4 q5 q6 q7 q8 q9 q10 q11 sd)), (q4, .inl (G.2.1, 55, .inl pg)), (q5, .inl (G.2.1, 55, .inl F10))]) H7 := hP7
          have hD9 : va_D A ([(h0, .inr (7, cM F9 q1 q2 q3 q4 q5 q6 q7 q8 q9 q10 q11 sd)), (q4, .inl (G.2.1, 55, .inl pg)), (q5, .inl (G.2.1, 55, .inl F10))]) := hD7
          refine lv_if_eq (x := r8) (tgt := 49) hx hb dX7_endured_42 (by decide) (fun (c11 : r8 = 0) => ?_) (fun (c11 : ¬ (r8 = 0)) => ?_)
          · skip
            refine lv_iload_n hx hb dX7_endured_49 rfl (lv_at hl6 2 rfl) ?_
            refine lv_istore_n (lv' := [(2, .int mo_1), (0, .ref h0), (1, .int 0), (3, .int (nI j1))]) hx hb dX7_endured_50 rfl hl6 (by decide) rfl (fun ls10 hl10 => ?_)
            refine lv_iinc (v := nI (j1 + 1)) (lv' := [(3, .int (nI (j1 + 1))), (2, .int mo_1), (0, .ref h0), (1, .int 0)]) hx hb dX7_endured_51 hl10 (k := 3) rfl (nI_1 j1) (by decide) rfl (fun ls11 hl11 => ?_)
            refine lv_goto (tgt := 30) hx hb dX7_endured_54 (by decide) ?_
            subst hF9
            subst hF10
            subst hr8
            have gr : r_X7_endured_0 Z pg tr = l_X7_endured_0_1_r pg n1 (j1 + 1) mo_1 (s_X7_endures_0_Z Z_1 pg tr_1 (nI j1)) (s_X7_endures_0_tr Z_1 pg tr_1 (nI j1)) := by rw [hr_1, l_X7_endured_0_1_r, if_pos c11]
            have gZ : s_X7_endured_0_Z Z pg tr = l_X7_endured_0_1_Z pg n1 (j1 + 1) mo_1 (s_X7_endures_0_Z Z_1 pg tr_1 (nI j1)) (s_X7_endures_0_tr Z_1 pg tr_1 (nI j1)) := by rw [hZ_1, l_X7_endured_0_1_Z, if_pos c11]
            have gtr : s_X7_endured_0_tr Z pg tr = l_X7_endured_0_1_tr pg n1 (j1 + 1) mo_1 (s_X7_endures_0_Z Z_1 pg tr_1 (nI j1)) (s_X7_endures_0_tr Z_1 pg tr_1 (nI j1)) := by rw [htr_1, l_X7_endured_0_1_tr, if_pos c11]
            exact ih1 (j1 + 1) mo_1 (s_X7_endures_0_Z Z_1 pg tr_1 (nI j1)) (s_X7_endures_0_tr Z_1 pg tr_1 (nI j1)) (by omega) gr gZ gtr _ _ _ hP8 hD9 hS7 (lv_sub hl11 [2, 3, 1, 0] rfl)
          · skip
            refine lv_iload_n hx hb dX7_endured_45 rfl (lv_at hl6 3 rfl) ?_
            refine lv_goto (tgt := 50) hx hb dX7_endured_46 (by decide) ?_
            refine lv_istore_n (lv' := [(2, .int (nI j1)), (0, .ref h0), (1, .int 0), (3, .int (nI j1))]) hx hb dX7_endured_50 rfl hl6 (by decide) rfl (fun ls12 hl12 => ?_)
            refine lv_iinc (v := nI (j1 + 1)) (lv' := [(3, .int (nI (j1 + 1))), (2, .int (nI j1)), (0, .ref h0), (1, .int 0)]) hx hb dX7_endured_51 hl12 (k := 3) rfl (nI_1 j1) (by decide) rfl (fun ls13 hl13 => ?_)
            refine lv_goto (tgt := 30) hx hb dX7_endured_54 (by decide) ?_
            subst hF9
            subst hF10
            subst hr8
            have gr : r_X7_endured_0 Z pg tr = l_X7_endured_0_1_r pg n1 (j1 + 1) (nI j1) (s_X7_endures_0_Z Z_1 pg tr_1 (nI j1)) (s_X7_endures_0_tr Z_1 pg tr_1 (nI j1)) := by rw [hr_1, l_X7_endured_0_1_r, if_neg c11]
            have gZ : s_X7_endured_0_Z Z pg tr = l_X7_endured_0_1_Z pg n1 (j1 + 1) (nI j1) (s_X7_endures_0_Z Z_1 pg tr_1 (nI j1)) (s_X7_endures_0_tr Z_1 pg tr_1 (nI j1)) := by rw [hZ_1, l_X7_endured_0_1_Z, if_neg c11]
            have gtr : s_X7_endured_0_tr Z pg tr = l_X7_endured_0_1_tr pg n1 (j1 + 1) (nI j1) (s_X7_endures_0_Z Z_1 pg tr_1 (nI j1)) (s_X7_endures_0_tr Z_1 pg tr_1 (nI j1)) := by rw [htr_1, l_X7_endured_0_1_tr, if_neg c11]
            exact ih1 (j1 + 1) (nI j1) (s_X7_endures_0_Z Z_1 pg tr_1 (nI j1)) (s_X7_endures_0_tr Z_1 pg tr_1 (nI j1)) (by omega) gr gZ gtr _ _ _ hP8 hD9 hS7 (lv_sub hl13 [2, 3, 1, 0] rfl)
      have gr : r_X7_endured_0 Z pg tr = l_X7_endured_0_1_r pg 5 1 0 (s_X7_endures_0_Z Z pg tr 0) (s_X7_endures_0_tr Z pg tr 0) := by rw [r_X7_endured_0, if_neg c1, if_neg c5]
      have gZ : s_X7_endured_0_Z Z pg tr = l_X7_endured_0_1_Z pg 5 1 0 (s_X7_endures_0_Z Z pg tr 0) (s_X7_endures_0_tr Z pg tr 0) := by rw [s_X7_endured_0_Z, if_neg c1, if_neg c5]
      have gtr : s_X7_endured_0_tr Z pg tr = l_X7_endured_0_1_tr pg 5 1 0 (s_X7_endures_0_Z Z pg tr 0) (s_X7_endures_0_tr Z pg tr 0) := by rw [s_X7_endured_0_tr, if_neg c1, if_neg c5]
      exact lp1 5 1 0 (s_X7_endures_0_Z Z pg tr 0) (s_X7_endures_0_tr Z pg tr 0) (by omega) gr gZ gtr _ _ _ hP2 hD3 hS1 (lv_sub hl5 [2, 3, 1, 0] rfl)
    · skip
      refine lv_bipush (v := (-9)) hx hb dX7_endured_23 (by decide) ?_
      have er : r_X7_endured_0 Z pg tr = (-9) := by rw [r_X7_endured_0]; (try rw [hF3]); (try rw [hF4]); (try rw [hr2]); rw [if_neg c1, if_pos c5]
      have e0 : s_X7_endured_0_Z Z pg tr = F3 := by rw [s_X7_endured_0_Z]; (try rw [hF3]); (try rw [hF4]); (try rw [hr2]); rw [if_neg c1, if_pos c5]
      have e1 : s_X7_endured_0_tr Z pg tr = F4 := by rw [s_X7_endured_0_tr]; (try rw [hF3]); (try rw [hF4]); (try rw [hr2]); rw [if_neg c1, if_pos c5]
      exact k_iret kx hK hP2 hD3 hS1 (u := (F3, F4)) rfl ⟨er.symm, e0.symm, e1.symm⟩ dX7_endured_25

def l_X7_endured_1_1_r (pg : Nat → Int32) : Nat → Nat → Int32 → (Nat → Int32) → (Nat → Int32) → Int32
  | 0, j1, mo_1, Z_1, tr_1 => mo_1
  | n1 + 1, j1, mo_1, Z_1, tr_1 => if (r_X7_endures_1 Z_1 pg tr_1 (nI j1)) = 0 then (l_X7_endured_1_1_r pg n1 (j1 + 1) mo_1 (s_X7_endures_1_Z Z_1 pg tr_1 (nI j1)) (s_X7_endures_1_tr Z_1 pg tr_1 (nI j1))) else l_X7_endured_1_1_r pg n1 (j1 + 1) (nI j1) (s_X7_endures_1_Z Z_1 pg tr_1 (nI j1)) (s_X7_endures_1_tr Z_1 pg tr_1 (nI j1))
def r_X7_endured_1 (Z : Nat → Int32) (pg : Nat → Int32) (tr : Nat → Int32) : Int32 := if pg 21 = 0 then (-9) else if (r_X7_endures_1 Z pg tr 0) = 0 then (-9) else l_X7_endured_1_1_r pg 5 1 0 (s_X7_endures_1_Z Z pg tr 0) (s_X7_endures_1_tr Z pg tr 0)
def l_X7_endured_1_1_Z (pg : Nat → Int32) : Nat → Nat → Int32 → (Nat → Int32) → (Nat → Int32) → Nat → Int32
  | 0, j1, mo_1, Z_1, tr_1 => Z_1
  | n1 + 1, j1, mo_1, Z_1, tr_1 => if (r_X7_endures_1 Z_1 pg tr_1 (nI j1)) = 0 then (l_X7_endured_1_1_Z pg n1 (j1 + 1) mo_1 (s_X7_endures_1_Z Z_1 pg tr_1 (nI j1)) (s_X7_endures_1_tr Z_1 pg tr_1 (nI j1))) else l_X7_endured_1_1_Z pg n1 (j1 + 1) (nI j1) (s_X7_endures_1_Z Z_1 pg tr_1 (nI j1)) (s_X7_endures_1_tr Z_1 pg tr_1 (nI j1))
def s_X7_endured_1_Z (Z : Nat → Int32) (pg : Nat → Int32) (tr : Nat → Int32) : Nat → Int32 := if pg 21 = 0 then Z else if (r_X7_endures_1 Z pg tr 0) = 0 then (s_X7_endures_1_Z Z pg tr 0) else l_X7_endured_1_1_Z pg 5 1 0 (s_X7_endures_1_Z Z pg tr 0) (s_X7_endures_1_tr Z pg tr 0)
def l_X7_endured_1_1_tr (pg : Nat → Int32) : Nat → Nat → Int32 → (Nat → Int32) → (Nat → Int32) → Nat → Int32
  | 0, j1, mo_1, Z_1, tr_1 => tr_1
  | n1 + 1, j1, mo_1, Z_1, tr_1 => if (r_X7_endures_1 Z_1 pg tr_1 (nI j1)) = 0 then (l_X7_endured_1_1_tr pg n1 (j1 + 1) mo_1 (s_X7_endures_1_Z Z_1 pg tr_1 (nI j1)) (s_X7_endures_1_tr Z_1 pg tr_1 (nI j1))) else l_X7_endured_1_1_tr pg n1 (j1 + 1) (nI j1) (s_X7_endures_1_Z Z_1 pg tr_1 (nI j1)) (s_X7_endures_1_tr Z_1 pg tr_1 (nI j1))
def s_X7_endured_1_tr (Z : Nat → Int32) (pg : Nat → Int32) (tr : Nat → Int32) : Nat → Int32 := if pg 21 = 0 then tr else if (r_X7_endures_1 Z pg tr 0) = 0 then (s_X7_endures_1_tr Z pg tr 0) else l_X7_endured_1_1_tr pg 5 1 0 (s_X7_endures_1_Z Z pg tr 0) (s_X7_endures_1_tr Z pg tr 0)
set_option maxHeartbeats 4000000 in
set_option maxRecDepth 100000 in
theorem c_X7_endured_1 (l : Launch) (G : kG) (Z : Nat → Int32) (sd : Int64) (h0 : Nat) (q1 : Nat) (q2 : Nat) (q3 : Nat) (q4 : Nat) (q5 : Nat) (q6 : Nat) (q7 : Nat) (q8 : Nat) (q9 : Nat) (q10 : Nat) (q11 : Nat) (pg : Nat → Int32) (tr : Nat → Int32) : cG l G yX7_endured cX7_endured 4 (some .int) 6 [.ref h0, .int 1] ([(h0, .inr (7, cM Z q1 q2 q3 q4 q5 q6 q7 q8 q9 q10 q11 sd)), (q4, .inl (G.2.1, 55, .inl pg)), (q5, .inl (G.2.1, 55, .inl tr))]) (qI G (fun (r : Int32) (u : ((Nat → Int32) × (Nat → Int32))) => r = r_X7_endured_1 Z pg tr ∧ u.1 = s_X7_endured_1_Z Z pg tr ∧ u.2 = s_X7_endured_1_tr Z pg tr) (fun u => [(h0, .inr (7, cM u.1 q1 q2 q3 q4 q5 q6 q7 q8 q9 q10 q11 sd)), (q4, .inl (G.2.1, 55, .inl pg)), (q5, .inl (G.2.1, 55, .inl u.2))])) := by
  refine kintro (by decide) (Nat.le_of_ble_eq_true rfl) ?_
  intro p e s m args below meth c A ls kx hK hP hD hS hA hl
  have kx : kX p s m args meth c cX7_endured 4 (some .int) RX7 := kx
  have hx := kx.1
  have hb := kx.2.1
  have hown := kx.2.2.2.2.1
  have ht := kx.2.2.2.2.2.2
  have hl : lv_has ls 4 [(0, .ref h0), (1, .int 1)] := hl
  refine lv_aload_n hx hb dX7_endured_0 rfl (lv_at hl 0 rfl) ?_
  refine va_get (ci := 7) (v := .ref q4) (C := RX7) (T := TX7) (N := 22) hx hb ht inX7 hown hK.1 hP 0 rfl rfl 7 (by decide) (ht _ q_673) (fun _ h9 => h9) rfl dX7_endured_1 ?_
  refine lv_bipush (v := 16) hx hb dX7_endured_4 (by decide) ?_
  refine lv_iload_n hx hb dX7_endured_6 rfl (lv_at hl 1 rfl) ?_
  refine lv_imul hx hb dX7_endured_7 ?_
  refine k_top (y := 16) (by decide +kernel) ?_
  refine lv_iconst (v := 5) hx hb dX7_endured_8 (by decide) ?_
  refine lv_iadd hx hb dX7_endured_9 ?_
  refine k_top (y := 21) (by decide +kernel) ?_
  refine k_iald (v := (pg 21)) kx hK hP 1 rfl 21 rfl (by decide) (by decide) rfl dX7_endured_10 ?_
  refine lv_if_eq (x := pg 21) (tgt := 23) hx hb dX7_endured_11 (by decide) (fun (c1 : pg 21 = 0) => ?_) (fun (c1 : ¬ (pg 21 = 0)) => ?_)
  · skip
    refine lv_bipush (v := (-9)) hx hb dX7_endured_23 (by decide) ?_
    have er : r_X7_endured_1 Z pg tr = (-9) := by rw [r_X7_endured_1, if_pos c1]
    have e0 : s_X7_endured_1_Z Z pg tr = Z := by rw [s_X7_endured_1_Z, if_pos c1]
    have e1 : s_X7_endured_1_tr Z pg tr = tr := by rw [s_X7_endured_1_tr, if_pos c1]
    exact k_iret kx hK hP hD hS (u := (Z, tr)) rfl ⟨er.symm, e0.symm, e1.symm⟩ dX7_endured_25
  · skip
    refine lv_aload_n hx hb dX7_endured_14 rfl (lv_at hl 0 rfl) ?_
    refine lv_iload_n hx hb dX7_endured_15 rfl (lv_at hl 1 rfl) ?_
    refine lv_iconst (v := 0) hx hb dX7_endured_16 (by decide) ?_
    refine k_calli (kRunV (As := [.int 1, .int 0]) (rest := []) kx (c_X7_endures_1 l G Z sd h0 q1 q2 q3 q4 q5 q6 q7 q8 q9 q10 q11 pg tr 0) q_837 q_834 q_36 q_836 q_23 nX7_endures ⟨Nat.le_of_ble_eq_true rfl, Nat.le_of_ble_eq_true rfl⟩ hK hP hD (kCtx_all _) 0 7 rfl rfl rfl rfl hl.1 (Nat.le_of_ble_eq_true rfl) dX7_endured_17 ⟨Nat.zero_le _, Nat.zero_le _⟩) hP hD hS hA (kCtx_all _) (fun _ => rfl) (fun r2 u H1 locs1 hw hP1 hD1 hS1 => ?_)
    obtain ⟨F3, F4⟩ := u
    obtain ⟨hr2, hF3, hF4⟩ := hw
    have hr2 : r_X7_endures_1 Z pg tr 0 = r2 := (show r2 = r_X7_endures_1 Z pg tr 0 from hr2).symm
    have hF3 : s_X7_endures_1_Z Z pg tr 0 = F3 := (show F3 = s_X7_endures_1_Z Z pg tr 0 from hF3).symm
    have hF4 : s_X7_endures_1_tr Z pg tr 0 = F4 := (show F4 = s_X7_endures_1_tr Z pg tr 0 from hF4).symm
    have hP2 : va_P G.1 vwCl ([(h0, .inr (7, cM F3 q1 q2 q3 q4 q5 q6 q7 q8 q9 q10 q11 sd)), (q4, .inl (G.2.1, 55, .inl pg)), (q5, .inl (G.2.1, 55, .inl F4))]) H1 := hP1
    have hD3 : va_D A ([(h0, .inr (7, cM F3 q1 q2 q3 q4 q5 q6 q7 q8 q9 q10 q11 sd)), (q4, .inl (G.2.1, 55, .inl pg)), (q5, .inl (G.2.1, 55, .inl F4))]) := hD1
    refine lv_if_ne (x := r2) (tgt := 26) hx hb dX7_endured_20 (by decide) (fun (c5 : ¬ (r2 = 0)) => ?_) (fun (c5 : r2 = 0) => ?_)
    · skip
      refine lv_iconst (v := 0) hx hb dX7_endured_26 (by decide) ?_
      refine lv_istore_n (lv' := [(2, .int 0), (0, .ref h0), (1, .int 1)]) hx hb dX7_endured_27 rfl hl (by decide) rfl (fun ls4 hl4 => ?_)
      refine lv_iconst (v := 1) hx hb dX7_endured_28 (by decide) ?_
      refine lv_istore_n (lv' := [(3, .int 1), (2, .int 0), (0, .ref h0), (1, .int 1)]) hx hb dX7_endured_29 rfl hl4 (by decide) rfl (fun ls5 hl5 => ?_)
      subst hF3
      subst hF4
      subst hr2
      have lp1 : ∀ (n1 j1 : Nat) (mo_1 : Int32) (Z_1 : Nat → Int32) (tr_1 : Nat → Int32), j1 + n1 = 6 → (hr_1 : r_X7_endured_1 Z pg tr = l_X7_endured_1_1_r pg n1 j1 mo_1 Z_1 tr_1) → (hZ_1 : s_X7_endured_1_Z Z pg tr = l_X7_endured_1_1_Z pg n1 j1 mo_1 Z_1 tr_1) → (htr_1 : s_X7_endured_1_tr Z pg tr = l_X7_endured_1_1_tr pg n1 j1 mo_1 Z_1 tr_1) → ∀ (H : Heap) (locs : List Loc) (ls : Array Slot), va_P G.1 vwCl ([(h0, .inr (7, cM Z_1 q1 q2 q3 q4 q5 q6 q7 q8 q9 q10 q11 sd)), (q4, .inl (G.2.1, 55, .inl pg)), (q5, .inl (G.2.1, 55, .inl tr_1))]) H → va_D A ([(h0, .inr (7, cM Z_1 q1 q2 q3 q4 q5 q6 q7 q8 q9 q10 q11 sd)), (q4, .inl (G.2.1, 55, .inl pg)), (q5, .inl (G.2.1, 55, .inl tr_1))]) → va_S A s.heap H locs → lv_has ls 4 [(0, .ref h0), (1, .int 1), (2, .int mo_1), (3, .int (nI j1))] → W p l e (kr 6) s m args below meth c H locs 0 0 (MQ below (qI G (fun (r : Int32) (u : ((Nat → Int32) × (Nat → Int32))) => r = r_X7_endured_1 Z pg tr ∧ u.1 = s_X7_endured_1_Z Z pg tr ∧ u.2 = s_X7_endured_1_tr Z pg tr) (fun u => [(h0, .inr (7, cM u.1 q1 q2 q3 q4 q5 q6 q7 q8 q9 q10 q11 sd)), (q4, .inl (G.2.1, 55, .inl pg)), (q5, .inl (G.2.1, 55, .inl u.2))]) A) args s 0 0 A) (F0 m 30 ls []) := by
        intro n1
        induction n1 with
        | zero =>
          intro j1 mo_1 Z_1 tr_1 hj1 hr_1 hZ_1 htr_1 H6 locs6 ls6 hP6 hD6 hS6 hl6
          refine lv_iload_n hx hb dX7_endured_30 rfl (lv_at hl6 3 rfl) ?_
          refine lv_bipush (v := 6) hx hb dX7_endured_31 (by decide) ?_
          refine lv_icmp_ge (x := nI j1) (y := 6) (tgt := 57) hx hb dX7_endured_33 (by decide) (fun (c6 : 6 ≤ nI j1) => ?_) (fun (c6 : ¬ (6 ≤ nI j1)) => absurd (kle_z rfl hj1) c6)
          refine lv_iload_n hx hb dX7_endured_57 rfl (lv_at hl6 2 rfl) ?_
          have er : r_X7_endured_1 Z pg tr = mo_1 := by rw [hr_1, l_X7_endured_1_1_r]
          have e0 : s_X7_endured_1_Z Z pg tr = Z_1 := by rw [hZ_1, l_X7_endured_1_1_Z]
          have e1 : s_X7_endured_1_tr Z pg tr = tr_1 := by rw [htr_1, l_X7_endured_1_1_tr]
          exact k_iret kx hK hP6 hD6 hS6 (u := (Z_1, tr_1)) rfl ⟨er.symm, e0.symm, e1.symm⟩ dX7_endured_58
        | succ n1 ih1 =>
          intro j1 mo_1 Z_1 tr_1 hj1 hr_1 hZ_1 htr_1 H6 locs6 ls6 hP6 hD6 hS6 hl6
          refine lv_iload_n hx hb dX7_endured_30 rfl (lv_at hl6 3 rfl) ?_
          refine lv_bipush (v := 6) hx hb dX7_endured_31 (by decide) ?_
          refine lv_icmp_ge (x := nI j1) (y := 6) (tgt := 57) hx hb dX7_endured_33 (by decide) (fun (c7 : 6 ≤ nI j1) => absurd c7 (kle_s rfl hj1 (by decide))) (fun (c7 : ¬ (6 ≤ nI j1)) => ?_)
          refine lv_aload_n hx hb dX7_endured_36 rfl (lv_at hl6 0 rfl) ?_
          refine lv_iload_n hx hb dX7_endured_37 rfl (lv_at hl6 1 rfl) ?_
          refine lv_iload_n hx hb dX7_endured_38 rfl (lv_at hl6 3 rfl) ?_
          refine k_calli (kRunV (As := [.int 1, .int (nI j1)]) (rest := []) kx (c_X7_endures_1 l G Z_1 sd h0 q1 q2 q3 q4 q5 q6 q7 q8 q9 q10 q11 pg tr_1 (nI j1)) q_837 q_834 q_36 q_836 q_23 nX7_endures ⟨Nat.le_of_ble_eq_true rfl, Nat.le_of_ble_eq_true rfl⟩ hK hP6 hD6 (kCtx_all _) 0 7 rfl rfl rfl rfl hl6.1 (Nat.le_of_ble_eq_true rfl) dX7_endured_39 ⟨Nat.zero_le _, Nat.zero_le _⟩) hP6 hD6 hS6 hA (kCtx_all _) (fun _ => rfl) (fun r8 u H7 locs7 hw hP7 hD7 hS7 => ?_)
          obtain ⟨F9, F10⟩ := u
          obtain ⟨hr8, hF9, hF10⟩ := hw
          have hr8 : r_X7_endures_1 Z_1 pg tr_1 (nI j1) = r8 := (show r8 = r_X7_endures_1 Z_1 pg tr_1 (nI j1) from hr8).symm
          have hF9 : s_X7_endures_1_Z Z_1 pg tr_1 (nI j1) = F9 := (show F9 = s_X7_endures_1_Z Z_1 pg tr_1 (nI j1) from hF9).symm
          have hF10 : s_X7_endures_1_tr Z_1 pg tr_1 (nI j1) = F10 := (show F10 = s_X7_endures_1_tr Z_1 pg tr_1 (nI j1) from hF10).symm
          have hP8 : va_P G.1 vwCl ([(h0, .inr (7, cM F9 q1 q2 q3 q4 q5 q6 q7 q8 q9 q10 q11 sd)), (q4, .inl (G.2.1, 55, .inl pg)), (q5, .inl (G.2.1, 55, .inl F10))]) H7 := hP7
          have hD9 : va_D A ([(h0, .inr (7, cM F9 q1 q2 q3 q4 q5 q6 q7 q8 q9 q10 q11 sd)), (q4, .inl (G.2.1, 55, .inl pg)), (q5, .inl (G.2.1, 55, .inl F10))]) := hD7
          refine lv_if_eq (x := r8) (tgt := 49) hx hb dX7_endured_42 (by decide) (fun (c11 : r8 = 0) => ?_) (fun (c11 : ¬ (r8 = 0)) => ?_)
          · skip
            refine lv_iload_n hx hb dX7_endured_49 rfl (lv_at hl6 2 rfl) ?_
            refine lv_istore_n (lv' := [(2, .int mo_1), (0, .ref h0), (1, .int 1), (3, .int (nI j1))]) hx hb dX7_endured_50 rfl hl6 (by decide) rfl (fun ls10 hl10 => ?_)
            refine lv_iinc (v := nI (j1 + 1)) (lv' := [(3, .int (nI (j1 + 1))), (2, .int mo_1), (0, .ref h0), (1, .int 1)]) hx hb dX7_endured_51 hl10 (k := 3) rfl (nI_1 j1) (by decide) rfl (fun ls11 hl11 => ?_)
            refine lv_goto (tgt := 30) hx hb dX7_endured_54 (by decide) ?_
            subst hF9
            subst hF10
            subst hr8
            have gr : r_X7_endured_1 Z pg tr = l_X7_endured_1_1_r pg n1 (j1 + 1) mo_1 (s_X7_endures_1_Z Z_1 pg tr_1 (nI j1)) (s_X7_endures_1_tr Z_1 pg tr_1 (nI j1)) := by rw [hr_1, l_X7_endured_1_1_r, if_pos c11]
            have gZ : s_X7_endured_1_Z Z pg tr = l_X7_endured_1_1_Z pg n1 (j1 + 1) mo_1 (s_X7_endures_1_Z Z_1 pg tr_1 (nI j1)) (s_X7_endures_1_tr Z_1 pg tr_1 (nI j1)) := by rw [hZ_1, l_X7_endured_1_1_Z, if_pos c11]
            have gtr : s_X7_endured_1_tr Z pg tr = l_X7_endured_1_1_tr pg n1 (j1 + 1) mo_1 (s_X7_endures_1_Z Z_1 pg tr_1 (nI j1)) (s_X7_endures_1_tr Z_1 pg tr_1 (nI j1)) := by rw [htr_1, l_X7_endured_1_1_tr, if_pos c11]
            exact ih1 (j1 + 1) mo_1 (s_X7_endures_1_Z Z_1 pg tr_1 (nI j1)) (s_X7_endures_1_tr Z_1 pg tr_1 (nI j1)) (by omega) gr gZ gtr _ _ _ hP8 hD9 hS7 (lv_sub hl11 [2, 3, 1, 0] rfl)
          · skip
            refine lv_iload_n hx hb dX7_endured_45 rfl (lv_at hl6 3 rfl) ?_
            refine lv_goto (tgt := 50) hx hb dX7_endured_46 (by decide) ?_
            refine lv_istore_n (lv' := [(2, .int (nI j1)), (0, .ref h0), (1, .int 1), (3, .int (nI j1))]) hx hb dX7_endured_50 rfl hl6 (by decide) rfl (fun ls12 hl12 => ?_)
            refine lv_iinc (v := nI (j1 + 1)) (lv' := [(3, .int (nI (j1 + 1))), (2, .int (nI j1)), (0, .ref h0), (1, .int 1)]) hx hb dX7_endured_51 hl12 (k := 3) rfl (nI_1 j1) (by decide) rfl (fun ls13 hl13 => ?_)
            refine lv_goto (tgt := 30) hx hb dX7_endured_54 (by decide) ?_
            subst hF9
            subst hF10
            subst hr8
            have gr : r_X7_endured_1 Z pg tr = l_X7_endured_1_1_r pg n1 (j1 + 1) (nI j1) (s_X7_endures_1_Z Z_1 pg tr_1 (nI j1)) (s_X7_endures_1_tr Z_1 pg tr_1 (nI j1)) := by rw [hr_1, l_X7_endured_1_1_r, if_neg c11]
            have gZ : s_X7_endured_1_Z Z pg tr = l_X7_endured_1_1_Z pg n1 (j1 + 1) (nI j1) (s_X7_endures_1_Z Z_1 pg tr_1 (nI j1)) (s_X7_endures_1_tr Z_1 pg tr_1 (nI j1)) := by rw [hZ_1, l_X7_endured_1_1_Z, if_neg c11]
            have gtr : s_X7_endured_1_tr Z pg tr = l_X7_endured_1_1_tr pg n1 (j1 + 1) (nI j1) (s_X7_endures_1_Z Z_1 pg tr_1 (nI j1)) (s_X7_endures_1_tr Z_1 pg tr_1 (nI j1)) := by rw [htr_1, l_X7_endured_1_1_tr, if_neg c11]
            exact ih1 (j1 + 1) (nI j1) (s_X7_endures_1_Z Z_1 pg tr_1 (nI j1)) (s_X7_endures_1_tr Z_1 pg tr_1 (nI j1)) (by omega) gr gZ gtr _ _ _ hP8 hD9 hS7 (lv_sub hl13 [2, 3, 1, 0] rfl)
      have gr : r_X7_endured_1 Z pg tr = l_X7_endured_1_1_r pg 5 1 0 (s_X7_endures_1_Z Z pg tr 0) (s_X7_endures_1_tr Z pg tr 0) := by rw [r_X7_endured_1, if_neg c1, if_neg c5]
      have gZ : s_X7_endured_1_Z Z pg tr = l_X7_endured_1_1_Z pg 5 1 0 (s_X7_endures_1_Z Z pg tr 0) (s_X7_endures_1_tr Z pg tr 0) := by rw [s_X7_endured_1_Z, if_neg c1, if_neg c5]
      have gtr : s_X7_endured_1_tr Z pg tr = l_X7_endured_1_1_tr pg 5 1 0 (s_X7_endures_1_Z Z pg tr 0) (s_X7_endures_1_tr Z pg tr 0) := by rw [s_X7_endured_1_tr, if_neg c1, if_neg c5]
      exact lp1 5 1 0 (s_X7_endures_1_Z Z pg tr 0) (s_X7_endures_1_tr Z pg tr 0) (by omega) gr gZ gtr _ _ _ hP2 hD3 hS1 (lv_sub hl5 [2, 3, 1, 0] rfl)
    · skip
      refine lv_bipush (v := (-9)) hx hb dX7_endured_23 (by decide) ?_
      have er : r_X7_endured_1 Z pg tr = (-9) := by rw [r_X7_endured_1]; (try rw [hF3]); (try rw [hF4]); (try rw [hr2]); rw [if_neg c1, if_pos c5]
      have e0 : s_X7_endured_1_Z Z pg tr = F3 := by rw [s_X7_endured_1_Z]; (try rw [hF3]); (try rw [hF4]); (try rw [hr2]); rw [if_neg c1, if_pos c5]
      have e1 : s_X7_endured_1_tr Z pg tr = F4 := by rw [s_X7_endured_1_tr]; (try rw [hF3]); (try rw [hF4]); (try rw [hr2]); rw [if_neg c1, if_pos c5]
      exact k_iret kx hK hP2 hD3 hS1 (u := (F3, F4)) rfl ⟨er.symm, e0.symm, e1.symm⟩ dX7_endured_25

def r_X7_end_0 (Z : Nat → Int32) (pg : Nat → Int32) (tr : Nat → Int32) (p1 : Int32) : Int32 := if (r_X7_in p1.toInt64 0 9) = 0 then (if p1 = 10 then (r_X7_paceOn_0 pg) else if p1 = 11 then (r_X7_limitOn_0 pg) else if p1 = 12 then (r_X7_noticed_0 (upd Z 0 0) pg tr) else if p1 = 13 then (r_X7_endured_0 (upd Z 0 0) pg tr) else (-2)) else pg (0 + p1.toNatClampNeg)
def s_X7_end_0_Z (Z : Nat → Int32) (pg : Nat → Int32) (tr : Nat → Int32) (p1 : Int32) : Nat → Int32 := if (r_X7_in p1.toInt64 0 9) = 0 then (if p1 = 10 then (upd Z 0 0) else if p1 = 11 then (upd Z 0 0) else if p1 = 12 then (s_X7_noticed_0_Z (upd Z 0 0) pg tr) else if p1 = 13 then (s_X7_endured_0_Z (upd Z 0 0) pg tr) else upd Z 0 0) else upd Z 0 0
def s_X7_end_0_tr (Z : Nat → Int32) (pg : Nat → Int32) (tr : Nat → Int32) (p1 : Int32) : Nat → Int32 := if (r_X7_in p1.toInt64 0 9) = 0 then (if p1 = 10 then tr else if p1 = 11 then tr else if p1 = 12 then (s_X7_noticed_0_tr (upd Z 0 0) pg tr) else if p1 = 13 then (s_X7_endured_0_tr (upd Z 0 0) pg tr) else tr) else tr
set_option maxHeartbeats 4000000 in
set_option maxRecDepth 100000 in
theorem c_X7_end_0 (l : Launch) (G : kG) (Z : Nat → Int32) (sd : Int64) (h0 : Nat) (q1 : Nat) (q2 : Nat) (q3 : Nat) (q4 : Nat) (q5 : Nat) (q6 : Nat) (q7 : Nat) (q8 : Nat) (q9 : Nat) (q10 : Nat) (q11 : Nat) (pg : Nat → Int32) (tr : Nat → Int32) (p1 : Int32) : cG l G yX7_end cX7_end 3 (some .int) 7 [.ref h0, .int 0, .int p1] ([(h0, .inr (7, cM Z q1 q2 q3 q4 q5 q6 q7 q8 q9 q10 q11 sd)), (q4, .inl (G.2.1, 55, .inl pg)), (q5, .inl (G.2.1, 55, .inl tr))]) (qI G (fun (r : Int32) (u : ((Nat → Int32) × (Nat → Int32))) => r = r_X7_end_0 Z pg tr p1 ∧ u.1 = s_X7_end_0_Z Z pg tr p1 ∧ u.2 = s_X7_end_0_tr Z pg tr p1) (fun u => [(h0, .inr (7, cM u.1 q1 q2 q3 q4 q5 q6 q7 q8 q9 q10 q11 sd)), (q4, .inl (G.2.1, 55, .inl pg)), (q5, .inl (G.2.1, 55, .inl u.2))])) := by
  refine kintro (by decide) (Nat.le_of_ble_eq_true rfl) ?_
  intro p e s m args below meth c A ls kx hK hP hD hS hA hl
  have kx : kX p s m args meth c cX7_end 3 (some .int) RX7 := kx
  have hx := kx.1
  have hb := kx.2.1
  have hown := kx.2.2.2.2.1
  have ht := kx.2.2.2.2.2.2
  have hl : lv_has ls 3 [(0, .ref h0), (1, .int 0), (2, .int p1)] := hl
  refine lv_aload_n hx hb dX7_end_0 rfl (lv_at hl 0 rfl) ?_
  refine lv_iconst (v := 0) hx hb dX7_end_1 (by decide) ?_
  refine va_put (ci := 7) (v := .int 0) (ty := .int) (C := RX7) (T := TX7) (N := 22) hx hb ht inX7 tyX7 tyX7_ok nmX7 hown hK.1 hP hD hS 0 rfl rfl 0 (by decide) (ht _ q_666) (fun _ h9 => h9) rfl (by decide +kernel) rfl rfl (Nat.le_of_ble_eq_true rfl) dX7_end_2 (fun H1 locs1 hP1 hD1 hS1 => ?_)
  have hP2 : va_P G.1 vwCl ([(h0, .inr (7, cM (upd Z 0 0) q1 q2 q3 q4 q5 q6 q7 q8 q9 q10 q11 sd)), (q4, .inl (G.2.1, 55, .inl pg)), (q5, .inl (G.2.1, 55, .inl tr))]) H1 := hP1
  have hD3 : va_D A ([(h0, .inr (7, cM (upd Z 0 0) q1 q2 q3 q4 q5 q6 q7 q8 q9 q10 q11 sd)), (q4, .inl (G.2.1, 55, .inl pg)), (q5, .inl (G.2.1, 55, .inl tr))]) := hD1
  refine lv_iload_n hx hb dX7_end_5 rfl (lv_at hl 1 rfl) ?_
  refine k_calli (kRunS (As := [.int 0]) (rest := []) kx (c_X7_noEnd_0 l G ) q_824 q_822 q_36 q_823 nX7_noEnd ⟨Nat.le_of_ble_eq_true rfl, Nat.le_of_ble_eq_true rfl⟩ hK hP2 hD3 (kCtx_nil _) rfl hl.1 (Nat.le_of_ble_eq_true rfl) dX7_end_6 ⟨Nat.zero_le _, Nat.zero_le _⟩) hP2 hD3 hS1 hA (kCtx_nil _) (fun _ => rfl) (fun r1 _ H4 locs4 hw hP4 hD4 hS4 => ?_)
  have hr1 : 0 = r1 := (show r1 = 0 from hw).symm
  subst hr1
  have hP5 : va_P G.1 vwCl ([(h0, .inr (7, cM (upd Z 0 0) q1 q2 q3 q4 q5 q6 q7 q8 q9 q10 q11 sd)), (q4, .inl (G.2.1, 55, .inl pg)), (q5, .inl (G.2.1, 55, .inl tr))]) H4 := hP4
  have hD6 : va_D A ([(h0, .inr (7, cM (upd Z 0 0) q1 q2 q3 q4 q5 q6 q7 q8 q9 q10 q11 sd)), (q4, .inl (G.2.1, 55, .inl pg)), (q5, .inl (G.2.1, 55, .inl tr))]) := hD4
  refine lv_if_eq (x := 0) (tgt := 14) hx hb dX7_end_9 (by decide) (fun (c2 : 0 = 0) => ?_) (fun (c2 : ¬ (0 = 0)) => absurd (by decide) c2)
  refine lv_iload_n hx hb dX7_end_14 rfl (lv_at hl 2 rfl) ?_
  refine lv_i2l (v := p1.toInt64) hx hb dX7_end_15 rfl ?_
  refine lv_lconst (v := 0) hx hb dX7_end_16 (by decide) ?_
  refine lv_ldc2 (v := 9) hx hb hown (ht _ q_825) dX7_end_17 ?_
  refine k_calli (kRunS (As := [.long p1.toInt64, .long 0, .long 9]) (rest := []) kx (c_X7_in l G p1.toInt64 0 9) q_740 q_738 q_36 q_739 nX7_in ⟨Nat.le_of_ble_eq_true rfl, Nat.le_of_ble_eq_true rfl⟩ hK hP5 hD6 (kCtx_nil _) rfl hl.1 (Nat.le_of_ble_eq_true rfl) dX7_end_20 ⟨Nat.zero_le _, Nat.zero_le _⟩) hP5 hD6 hS4 hA (kCtx_nil _) (fun _ => rfl) (fun r3 _ H7 locs7 hw hP7 hD7 hS7 => ?_)
  have hr3 : r_X7_in p1.toInt64 0 9 = r3 := (show r3 = r_X7_in p1.toInt64 0 9 from hw).symm
  have hP8 : va_P G.1 vwCl ([(h0, .inr (7, cM (upd Z 0 0) q1 q2 q3 q4 q5 q6 q7 q8 q9 q10 q11 sd)), (q4, .inl (G.2.1, 55, .inl pg)), (q5, .inl (G.2.1, 55, .inl tr))]) H7 := hP7
  have hD9 : va_D A ([(h0, .inr (7, cM (upd Z 0 0) q1 q2 q3 q4 q5 q6 q7 q8 q9 q10 q11 sd)), (q4, .inl (G.2.1, 55, .inl pg)), (q5, .inl (G.2.1, 55, .inl tr))]) := hD7
  refine lv_if_eq (x := r3) (tgt := 38) hx hb dX7_end_23 (by decide) (fun (c4 : r3 = 0) => ?_) (fun (c4 : ¬ (r3 = 0)) => ?_)
  · skip
    refine lv_iload_n hx hb dX7_end_38 rfl (lv_at hl 2 rfl) ?_
    by_cases c5 : p1 = 10
    · skip
      refine lv_tableIn (off := 29) (tgt := 68) hx hb dX7_end_39 (by rw [c5]; decide) (by rw [c5]; decide) (by rw [c5]; rfl) (by decide) ?_
      refine lv_aload_n hx hb dX7_end_68 rfl (lv_at hl 0 rfl) ?_
      refine va_get (ci := 7) (v := .ref q4) (C := RX7) (T := TX7) (N := 22) hx hb ht inX7 hown hK.1 hP8 0 rfl rfl 7 (by decide) (ht _ q_673) (fun _ h9 => h9) rfl dX7_end_69 ?_
      refine lv_bipush (v := 16) hx hb dX7_end_72 (by decide) ?_
      refine lv_iload_n hx hb dX7_end_74 rfl (lv_at hl 1 rfl) ?_
      refine lv_imul hx hb dX7_end_75 ?_
      refine k_top (y := 0) (by decide +kernel) ?_
      refine k_calli (kRunS (As := [.ref q4, .int 0]) (rest := []) kx (c_X7_paceOn_0 l G pg q4) q_817 q_815 q_36 q_816 nX7_paceOn ⟨Nat.le_of_ble_eq_true rfl, Nat.le_of_ble_eq_true rfl⟩ hK hP8 hD9 (kCtx_places _ _ [1] rfl rfl) rfl hl.1 (Nat.le_of_ble_eq_true rfl) dX7_end_76 ⟨Nat.zero_le _, Nat.zero_le _⟩) hP8 hD9 hS7 hA (kCtx_places _ _ [1] rfl rfl) (fun _ => rfl) (fun r6 _ H10 locs10 hw hP10 hD10 hS10 => ?_)
      have hr6 : r_X7_paceOn_0 pg = r6 := (show r6 = r_X7_paceOn_0 pg from hw).symm
      have hP11 : va_P G.1 vwCl ([(h0, .inr (7, cM (upd Z 0 0) q1 q2 q3 q4 q5 q6 q7 q8 q9 q10 q11 sd)), (q4, .inl (G.2.1, 55, .inl pg)), (q5, .inl (G.2.1, 55, .inl tr))]) H10 := hP10
      have hD12 : va_D A ([(h0, .inr (7, cM (upd Z 0 0) q1 q2 q3 q4 q5 q6 q7 q8 q9 q10 q11 sd)), (q4, .inl (G.2.1, 55, .inl pg)), (q5, .inl (G.2.1, 55, .inl tr))]) := hD10
      have er : r_X7_end_0 Z pg tr p1 = r6 := by rw [r_X7_end_0]; (try rw [hr3]); (try rw [hr6]); rw [if_pos c4, if_pos c5]
      have e0 : s_X7_end_0_Z Z pg tr p1 = upd Z 0 0 := by rw [s_X7_end_0_Z]; (try rw [hr3]); (try rw [hr6]); rw [if_pos c4, if_pos c5]
      have e1 : s_X7_end_0_tr Z pg tr p1 = tr := by rw [s_X7_end_0_tr]; (try rw [hr3]); (try rw [hr6]); rw [if_pos c4, if_pos c5]
      exact k_iret kx hK hP11 hD12 hS10 (u := (upd Z 0 0, tr)) rfl ⟨er.symm, e0.symm, e1.symm⟩ dX7_end_79
    · skip
      by_cases c7 : p1 = 11
      · skip
        refine lv_tableIn (off := 41) (tgt := 80) hx hb dX7_end_39 (by rw [c7]; decide) (by rw [c7]; decide) (by rw [c7]; rfl) (by decide) ?_
        refine lv_aload_n hx hb dX7_end_80 rfl (lv_at hl 0 rfl) ?_
        refine va_get (ci := 7) (v := .ref q4) (C := RX7) (T := TX7) (N := 22) hx hb ht inX7 hown hK.1 hP8 0 rfl rfl 7 (by decide) (ht _ q_673) (fun _ h9 => h9) rfl dX7_end_81 ?_
        refine lv_bipush (v := 16) hx hb dX7_end_84 (by decide) ?_
        refine lv_iload_n hx hb dX7_end_86 rfl (lv_at hl 1 rfl) ?_
        refine lv_imul hx hb dX7_end_87 ?_
        refine k_top (y := 0) (by decide +kernel) ?_
        refine k_calli (kRunS (As := [.ref q4, .int 0]) (rest := []) kx (c_X7_limitOn_0 l G pg q4) q_801 q_799 q_36 q_800 nX7_limitOn ⟨Nat.le_of_ble_eq_true rfl, Nat.le_of_ble_eq_true rfl⟩ hK hP8 hD9 (kCtx_places _ _ [1] rfl rfl) rfl hl.1 (Nat.le_of_ble_eq_true rfl) dX7_end_88 ⟨Nat.zero_le _, Nat.zero_le _⟩) hP8 hD9 hS7 hA (kCtx_places _ _ [1] rfl rfl) (fun _ => rfl) (fun r8 _ H13 locs13 hw hP13 hD13 hS13 => ?_)
        have hr8 : r_X7_limitOn_0 pg = r8 := (show r8 = r_X7_limitOn_0 pg from hw).symm
        have hP14 : va_P G.1 vwCl ([(h0, .inr (7, cM (upd Z 0 0) q1 q2 q3 q4 q5 q6 q7 q8 q9 q10 q11 sd)), (q4, .inl (G.2.1, 55, .inl pg)), (q5, .inl (G.2.1, 55, .inl tr))]) H13 := hP13
        have hD15 : va_D A ([(h0, .inr (7, cM (upd Z 0 0) q1 q2 q3 q4 q5 q6 q7 q8 q9 q10 q11 sd)), (q4, .inl (G.2.1, 55, .inl pg)), (q5, .inl (G.2.1, 55, .inl tr))]) := hD13
        have er : r_X7_end_0 Z pg tr p1 = r8 := by rw [r_X7_end_0]; (try rw [hr3]); (try rw [hr8]); rw [if_pos c4, if_neg c5, if_pos c7]
        have e0 : s_X7_end_0_Z Z pg tr p1 = upd Z 0 0 := by rw [s_X7_end_0_Z]; (try rw [hr3]); (try rw [hr8]); rw [if_pos c4, if_neg c5, if_pos c7]
        have e1 : s_X7_end_0_tr Z pg tr p1 = tr := by rw [s_X7_end_0_tr]; (try rw [hr3]); (try rw [hr8]); rw [if_pos c4, if_neg c5, if_pos c7]
        exact k_iret kx hK hP14 hD15 hS13 (u := (upd Z 0 0, tr)) rfl ⟨er.symm, e0.symm, e1.symm⟩ dX7_end_91
      · skip
        by_cases c9 : p1 = 12
        · skip
          refine lv_tableIn (off := 53) (tgt := 92) hx hb dX7_end_39 (by rw [c9]; decide) (by rw [c9]; decide) (by rw [c9]; rfl) (by decide) ?_
          refine lv_aload_n hx hb dX7_end_92 rfl (lv_at hl 0 rfl) ?_
          refine lv_iload_n hx hb dX7_end_93 rfl (lv_at hl 1 rfl) ?_
          refine k_calli (kRunV (As := [.int 0]) (rest := []) kx (c_X7_noticed_0 l G (upd Z 0 0) sd h0 q1 q2 q3 q4 q5 q6 q7 q8 q9 q10 q11 pg tr) q_829 q_826 q_36 q_828 q_21 nX7_noticed ⟨Nat.le_of_ble_eq_true rfl, Nat.le_of_ble_eq_true rfl⟩ hK hP8 hD9 (kCtx_all _) 0 7 rfl rfl rfl rfl hl.1 (Nat.le_of_ble_eq_true rfl) dX7_end_94 ⟨Nat.zero_le _, Nat.zero_le _⟩) hP8 hD9 hS7 hA (kCtx_all _) (fun _ => rfl) (fun r10 u H16 locs16 hw hP16 hD16 hS16 => ?_)
          obtain ⟨F11, F12⟩ := u
          obtain ⟨hr10, hF11, hF12⟩ := hw
          have hr10 : r_X7_noticed_0 (upd Z 0 0) pg tr = r10 := (show r10 = r_X7_noticed_0 (upd Z 0 0) pg tr from hr10).symm
          have hF11 : s_X7_noticed_0_Z (upd Z 0 0) pg tr = F11 := (show F11 = s_X7_noticed_0_Z (upd Z 0 0) pg tr from hF11).symm
          have hF12 : s_X7_noticed_0_tr (upd Z 0 0) pg tr = F12 := (show F12 = s_X7_noticed_0_tr (upd Z 0 0) pg tr from hF12).symm
          have hP17 : va_P G.1 vwCl ([(h0, .inr (7, cM F11 q1 q2 q3 q4 q5 q6 q7 q8 q9 q10 q11 sd)), (q4, .inl (G.2.1, 55, .inl pg)), (q5, .inl (G.2.1, 55, .inl F12))]) H16 := hP16
          have hD18 : va_D A ([(h0, .inr (7, cM F11 q1 q2 q3 q4 q5 q6 q7 q8 q9 q10 q11 sd)), (q4, .inl (G.2.1, 55, .inl pg)), (q5, .inl (G.2.1, 55, .inl F12))]) := hD16
          have er : r_X7_end_0 Z pg tr p1 = r10 := by rw [r_X7_end_0]; (try rw [hr3]); (try rw [hF11]); (try rw [hF12]); (try rw [hr10]); rw [if_pos c4, if_neg c5, if_neg c7, if_pos c9]
          have e0 : s_X7_end_0_Z Z pg tr p1 = F11 := by rw [s_X7_end_0_Z]; (try rw [hr3]); (try rw [hF11]); (try rw [hF12]); (try rw [hr10]); rw [if_pos c4, if_neg c5, if_neg c7, if_pos c9]
          have e1 : s_X7_end_0_tr Z pg tr p1 = F12 := by rw [s_X7_end_0_tr]; (try rw [hr3]); (try rw [hF11]); (try rw [hF12]); (try rw [hr10]); rw [if_pos c4, if_neg c5, if_neg c7, if_pos c9]
          exact k_iret kx hK hP17 hD18 hS16 (u := (F11, F12)) rfl ⟨er.symm, e0.symm, e1.symm⟩ dX7_end_97
        · skip
          by_cases c13 : p1 = 13
          · skip
            refine lv_tableIn (off := 59) (tgt := 98) hx hb dX7_end_39 (by rw [c13]; decide) (by rw [c13]; decide) (by rw [c13]; rfl) (by decide) ?_
            refine lv_aload_n hx hb dX7_end_98 rfl (lv_at hl 0 rfl) ?_
            refine lv_iload_n hx hb dX7_end_99 rfl (lv_at hl 1 rfl) ?_
            refine k_calli (kRunV (As := [.int 0]) (rest := []) kx (c_X7_endured_0 l G (upd Z 0 0) sd h0 q1 q2 q3 q4 q5 q6 q7 q8 q9 q10 q11 pg tr) q_833 q_830 q_36 q_832 q_22 nX7_endured ⟨Nat.le_of_ble_eq_true rfl, Nat.le_of_ble_eq_true rfl⟩ hK hP8 hD9 (kCtx_all _) 0 7 rfl rfl rfl rfl hl.1 (Nat.le_of_ble_eq_true rfl) dX7_end_100 ⟨Nat.zero_le _, Nat.zero_le _⟩) hP8 hD9 hS7 hA (kCtx_all _) (fun _ => rfl) (fun r14 u H19 locs19 hw hP19 hD19 hS19 => ?_)
            obtain ⟨F15, F16⟩ := u
            obtain ⟨hr14, hF15, hF16⟩ := hw
            have hr14 : r_X7_endured_0 (upd Z 0 0) pg tr = r14 := (show r14 = r_X7_endured_0 (upd Z 0 0) pg tr from hr14).symm
            have hF15 : s_X7_endured_0_Z (upd Z 0 0) pg tr = F15 := (show F15 = s_X7_endured_0_Z (upd Z 0 0) pg tr from hF15).symm
            have hF16 : s_X7_endured_0_tr (upd Z 0 0) pg tr = F16 := (show F16 = s_X7_endured_0_tr (upd Z 0 0) pg tr from hF16).symm
            have hP20 : va_P G.1 vwCl ([(h0, .inr (7, cM F15 q1 q2 q3 q4 q5 q6 q7 q8 q9 q10 q11 sd)), (q4, .inl (G.2.1, 55, .inl pg)), (q5, .inl (G.2.1, 55, .inl F16))]) H19 := hP19
            have hD21 : va_D A ([(h0, .inr (7, cM F15 q1 q2 q3 q4 q5 q6 q7 q8 q9 q10 q11 sd)), (q4, .inl (G.2.1, 55, .inl pg)), (q5, .inl (G.2.1, 55, .inl F16))]) := hD19
            have er : r_X7_end_0 Z pg tr p1 = r14 := by rw [r_X7_end_0]; (try rw [hr3]); (try rw [hF15]); (try rw [hF16]); (try rw [hr14]); rw [if_pos c4, if_neg c5, if_neg c7, if_neg c9, if_pos c13]
            have e0 : s_X7_end_0_Z Z pg tr p1 = F15 := by rw [s_X7_end_0_Z]; (try rw [hr3]); (try rw [hF15]); (try rw [hF16]); (try rw [hr14]); rw [if_pos c4, if_neg c5, if_neg c7, if_neg c9, if_pos c13]
            have e1 : s_X7_end_0_tr Z pg tr p1 = F16 := by rw [s_X7_end_0_tr]; (try rw [hr3]); (try rw [hF15]); (try rw [hF16]); (try rw [hr14]); rw [if_pos c4, if_neg c5, if_neg c7, if_neg c9, if_pos c13]
            exact k_iret kx hK hP20 hD21 hS19 (u := (F15, F16)) rfl ⟨er.symm, e0.symm, e1.symm⟩ dX7_end_103
          · skip
            have nc5 := lv_neT (a := 10) c5 (by decide)
            have nc7 := lv_neT (a := 11) c7 (by decide)
            have nc9 := lv_neT (a := 12) c9 (by decide)
            have nc13 := lv_neT (a := 13) c13 (by decide)
            refine lv_tableOut (tgt := 104) hx hb dX7_end_39 (by omega) (by decide) ?_
            refine lv_bipush (v := (-2)) hx hb dX7_end_104 (by decide) ?_
            have er : r_X7_end_0 Z pg tr p1 = (-2) := by rw [r_X7_end_0]; (try rw [hr3]); rw [if_pos c4, if_neg c5, if_neg c7, if_neg c9, if_neg c13]
            have e0 : s_X7_end_0_Z Z pg tr p1 = upd Z 0 0 := by rw [s_X7_end_0_Z]; (try rw [hr3]); rw [if_pos c4, if_neg c5, if_neg c7, if_neg c9, if_neg c13]
            have e1 : s_X7_end_0_tr Z pg tr p1 = tr := by rw [s_X7_end_0_tr]; (try rw [hr3]); rw [if_pos c4, if_neg c5, if_neg c7, if_neg c9, if_neg c13]
            exact k_iret kx hK hP8 hD9 hS7 (u := (upd Z 0 0, tr)) rfl ⟨er.symm, e0.symm, e1.symm⟩ dX7_end_106
  · skip
    obtain ⟨nnc4, nmc4⟩ := kin_of (x := p1) (a := 0) (N := 9) (by rw [hr3]; exact c4) (by decide) (by decide)
    refine lv_aload_n hx hb dX7_end_26 rfl (lv_at hl 0 rfl) ?_
    refine va_get (ci := 7) (v := .ref q4) (C := RX7) (T := TX7) (N := 22) hx hb ht inX7 hown hK.1 hP8 0 rfl rfl 7 (by decide) (ht _ q_673) (fun _ h9 => h9) rfl dX7_end_27 ?_
    refine lv_bipush (v := 16) hx hb dX7_end_30 (by decide) ?_
    refine lv_iload_n hx hb dX7_end_32 rfl (lv_at hl 1 rfl) ?_
    refine lv_imul hx hb dX7_end_33 ?_
    refine k_top (y := 0) (by decide +kernel) ?_
    refine lv_iload_n hx hb dX7_end_34 rfl (lv_at hl 2 rfl) ?_
    refine lv_iadd hx hb dX7_end_35 ?_
    refine k_iald (v := (pg (0 + p1.toNatClampNeg))) kx hK hP8 1 rfl (0 + p1.toNatClampNeg) (kadd rfl nnc4) (by omega) (by decide) rfl dX7_end_36 ?_
    have er : r_X7_end_0 Z pg tr p1 = pg (0 + p1.toNatClampNeg) := by rw [r_X7_end_0]; (try rw [hr3]); rw [if_neg c4]
    have e0 : s_X7_end_0_Z Z pg tr p1 = upd Z 0 0 := by rw [s_X7_end_0_Z]; (try rw [hr3]); rw [if_neg c4]
    have e1 : s_X7_end_0_tr Z pg tr p1 = tr := by rw [s_X7_end_0_tr]; (try rw [hr3]); rw [if_neg c4]
    exact k_iret kx hK hP8 hD9 hS7 (u := (upd Z 0 0, tr)) rfl ⟨er.symm, e0.symm, e1.symm⟩ dX7_end_37

def r_X7_known_0 (pg : Nat → Int32) (p1 : Int32) : Int32 := if (r_X7_in p1.toInt64 0 4) = 0 then (-2) else pg (11 + p1.toNatClampNeg)
def s_X7_known_0_Z (Z : Nat → Int32) (p1 : Int32) : Nat → Int32 := if (r_X7_in p1.toInt64 0 4) = 0 then (upd Z 0 0) else upd Z 0 0
set_option maxHeartbeats 4000000 in
set_option maxRecDepth 100000 in
theorem c_X7_known_0 (l : Launch) (G : kG) (Z : Nat → Int32) (sd : Int64) (h0 : Nat) (q1 : Nat) (q2 : Nat) (q3 : Nat) (q4 : Nat) (q5 : Nat) (q6 : Nat) (q7 : Nat) (q8 : Nat) (q9 : Nat) (q10 : Nat) (q11 : Nat) (pg : Nat → Int32) (p1 : Int32) : cG l G yX7_known cX7_known 3 (some .int) 2 [.ref h0, .int 0, .int p1] ([(h0, .inr (7, cM Z q1 q2 q3 q4 q5 q6 q7 q8 q9 q10 q11 sd)), (q4, .inl (G.2.1, 55, .inl pg))]) (qI G (fun (r : Int32) (u : (Nat → Int32)) => r = r_X7_known_0 pg p1 ∧ u = s_X7_known_0_Z Z p1) (fun u => [(h0, .inr (7, cM u q1 q2 q3 q4 q5 q6 q7 q8 q9 q10 q11 sd)), (q4, .inl (G.2.1, 55, .inl pg))])) := by
  refine kintro (by decide) (Nat.le_of_ble_eq_true rfl) ?_
  intro p e s m args below meth c A ls kx hK hP hD hS hA hl
  have kx : kX p s m args meth c cX7_known 3 (some .int) RX7 := kx
  have hx := kx.1
  have hb := kx.2.1
  have hown := kx.2.2.2.2.1
  have ht := kx.2.2.2.2.2.2
  have hl : lv_has ls 3 [(0, .ref h0), (1, .int 0), (2, .int p1)] := hl
  refine lv_aload_n hx hb dX7_known_0 rfl (lv_at hl 0 rfl) ?_
  refine lv_iconst (v := 0) hx hb dX7_known_1 (by decide) ?_
  refine va_put (ci := 7) (v := .int 0) (ty := .int) (C := RX7) (T := TX7) (N := 22) hx hb ht inX7 tyX7 tyX7_ok nmX7 hown hK.1 hP hD hS 0 rfl rfl 0 (by decide) (ht _ q_666) (fun _ h9 => h9) rfl (by decide +kernel) rfl rfl (Nat.le_of_ble_eq_true rfl) dX7_known_2 (fun H1 locs1 hP1 hD1 hS1 => ?_)
  have hP2 : va_P G.1 vwCl ([(h0, .inr (7, cM (upd Z 0 0) q1 q2 q3 q4 q5 q6 q7 q8 q9 q10 q11 sd)), (q4, .inl (G.2.1, 55, .inl pg))]) H1 := hP1
  have hD3 : va_D A ([(h0, .inr (7, cM (upd Z 0 0) q1 q2 q3 q4 q5 q6 q7 q8 q9 q10 q11 sd)), (q4, .inl (G.2.1, 55, .inl pg))]) := hD1
  refine lv_iload_n hx hb dX7_known_5 rfl (lv_at hl 1 rfl) ?_
  refine k_calli (kRunS (As := [.int 0]) (rest := []) kx (c_X7_noEnd_0 l G ) q_824 q_822 q_36 q_823 nX7_noEnd ⟨Nat.le_of_ble_eq_true rfl, Nat.le_of_ble_eq_true rfl⟩ hK hP2 hD3 (kCtx_nil _) rfl hl.1 (Nat.le_of_ble_eq_true rfl) dX7_known_6 ⟨Nat.zero_le _, Nat.zero_le _⟩) hP2 hD3 hS1 hA (kCtx_nil _) (fun _ => rfl) (fun r1 _ H4 locs4 hw hP4 hD4 hS4 => ?_)
  have hr1 : 0 = r1 := (show r1 = 0 from hw).symm
  subst hr1
  have hP5 : va_P G.1 vwCl ([(h0, .inr (7, cM (upd Z 0 0) q1 q2 q3 q4 q5 q6 q7 q8 q9 q10 q11 sd)), (q4, .inl (G.2.1, 55, .inl pg))]) H4 := hP4
  have hD6 : va_D A ([(h0, .inr (7, cM (upd Z 0 0) q1 q2 q3 q4 q5 q6 q7 q8 q9 q10 q11 sd)), (q4, .inl (G.2.1, 55, .inl pg))]) := hD4
  refine lv_if_eq (x := 0) (tgt := 14) hx hb dX7_known_9 (by decide) (fun (c2 : 0 = 0) => ?_) (fun (c2 : ¬ (0 = 0)) => absurd (by decide) c2)
  refine lv_iload_n hx hb dX7_known_14 rfl (lv_at hl 2 rfl) ?_
  refine lv_i2l (v := p1.toInt64) hx hb dX7_known_15 rfl ?_
  refine lv_lconst (v := 0) hx hb dX7_known_16 (by decide) ?_
  refine lv_ldc2 (v := 4) hx hb hown (ht _ q_842) dX7_known_17 ?_
  refine k_calli (kRunS (As := [.long p1.toInt64, .long 0, .long 4]) (rest := []) kx (c_X7_in l G p1.toInt64 0 4) q_740 q_738 q_36 q_739 nX7_in ⟨Nat.le_of_ble_eq_true rfl, Nat.le_of_ble_eq_true rfl⟩ hK hP5 hD6 (kCtx_nil _) rfl hl.1 (Nat.le_of_ble_eq_true rfl) dX7_known_20 ⟨Nat.zero_le _, Nat.zero_le _⟩) hP5 hD6 hS4 hA (kCtx_nil _) (fun _ => rfl) (fun r3 _ H7 locs7 hw hP7 hD7 hS7 => ?_)
  have hr3 : r_X7_in p1.toInt64 0 4 = r3 := (show r3 = r_X7_in p1.toInt64 0 4 from hw).symm
  have hP8 : va_P G.1 vwCl ([(h0, .inr (7, cM (upd Z 0 0) q1 q2 q3 q4 q5 q6 q7 q8 q9 q10 q11 sd)), (q4, .inl (G.2.1, 55, .inl pg))]) H7 := hP7
  have hD9 : va_D A ([(h0, .inr (7, cM (upd Z 0 0) q1 q2 q3 q4 q5 q6 q7 q8 q9 q10 q11 sd)), (q4, .inl (G.2.1, 55, .inl pg))]) := hD7
  refine lv_if_eq (x := r3) (tgt := 43) hx hb dX7_known_23 (by decide) (fun (c4 : r3 = 0) => ?_) (fun (c4 : ¬ (r3 = 0)) => ?_)
  · skip
    refine lv_bipush (v := (-2)) hx hb dX7_known_43 (by decide) ?_
    have er : r_X7_known_0 pg p1 = (-2) := by rw [r_X7_known_0]; (try rw [hr3]); rw [if_pos c4]
    have e0 : s_X7_known_0_Z Z p1 = upd Z 0 0 := by rw [s_X7_known_0_Z]; (try rw [hr3]); rw [if_pos c4]
    exact k_iret kx hK hP8 hD9 hS7 (u := upd Z 0 0) rfl ⟨er.symm, e0.symm⟩ dX7_known_45
  · skip
    obtain ⟨nnc4, nmc4⟩ := kin_of (x := p1) (a := 0) (N := 4) (by rw [hr3]; exact c4) (by decide) (by decide)
    refine lv_aload_n hx hb dX7_known_26 rfl (lv_at hl 0 rfl) ?_
    refine va_get (ci := 7) (v := .ref q4) (C := RX7) (T := TX7) (N := 22) hx hb ht inX7 hown hK.1 hP8 0 rfl rfl 7 (by decide) (ht _ q_673) (fun _ h9 => h9) rfl dX7_known_27 ?_
    refine lv_bipush (v := 16) hx hb dX7_known_30 (by decide) ?_
    refine lv_iload_n hx hb dX7_known_32 rfl (lv_at hl 1 rfl) ?_
    refine lv_imul hx hb dX7_known_33 ?_
    refine k_top (y := 0) (by decide +kernel) ?_
    refine lv_bipush (v := 11) hx hb dX7_known_34 (by decide) ?_
    refine lv_iadd hx hb dX7_known_36 ?_
    refine k_top (y := 11) (by decide +kernel) ?_
    refine lv_iload_n hx hb dX7_known_37 rfl (lv_at hl 2 rfl) ?_
    refine lv_iadd hx hb dX7_known_38 ?_
    refine k_iald (v := (pg (11 + p1.toNatClampNeg))) kx hK hP8 1 rfl (11 + p1.toNatClampNeg) (kadd rfl nnc4) (by omega) (by decide) rfl dX7_known_39 ?_
    refine lv_goto (tgt := 45) hx hb dX7_known_40 (by decide) ?_
    have er : r_X7_known_0 pg p1 = pg (11 + p1.toNatClampNeg) := by rw [r_X7_known_0]; (try rw [hr3]); rw [if_neg c4]
    have e0 : s_X7_known_0_Z Z p1 = upd Z 0 0 := by rw [s_X7_known_0_Z]; (try rw [hr3]); rw [if_neg c4]
    exact k_iret kx hK hP8 hD9 hS7 (u := upd Z 0 0) rfl ⟨er.symm, e0.symm⟩ dX7_known_45

def r_X7_way_0 (pg : Nat → Int32) (p1 : Int32) : Int32 := if p1 = 0 then (pg 32) else if p1 = 1 then (pg 34) else (-2)
def s_X7_way_0_Z (Z : Nat → Int32) (p1 : Int32) : Nat → Int32 := if p1 = 0 then (upd Z 0 0) else if p1 = 1 then (upd Z 0 0) else upd Z 0 0
set_option maxHeartbeats 4000000 in
set_option maxRecDepth 100000 in
theorem c_X7_way_0 (l : Launch) (G : kG) (Z : Nat → Int32) (sd : Int64) (h0 : Nat) (q1 : Nat) (q2 : Nat) (q3 : Nat) (q4 : Nat) (q5 : Nat) (q6 : Nat) (q7 : Nat) (q8 : Nat) (q9 : Nat) (q10 : Nat) (q11 : Nat) (pg : Nat → Int32) (p1 : Int32) : cG l G yX7_way cX7_way 3 (some .int) 2 [.ref h0, .int 0, .int p1] ([(h0, .inr (7, cM Z q1 q2 q3 q4 q5 q6 q7 q8 q9 q10 q11 sd)), (q4, .inl (G.2.1, 55, .inl pg))]) (qI G (fun (r : Int32) (u : (Nat → Int32)) => r = r_X7_way_0 pg p1 ∧ u = s_X7_way_0_Z Z p1) (fun u => [(h0, .inr (7, cM u q1 q2 q3 q4 q5 q6 q7 q8 q9 q10 q11 sd)), (q4, .inl (G.2.1, 55, .inl pg))])) := by
  refine kintro (by decide) (Nat.le_of_ble_eq_true rfl) ?_
  intro p e s m args below meth c A ls kx hK hP hD hS hA hl
  have kx : kX p s m args meth c cX7_way 3 (some .int) RX7 := kx
  have hx := kx.1
  have hb := kx.2.1
  have hown := kx.2.2.2.2.1
  have ht := kx.2.2.2.2.2.2
  have hl : lv_has ls 3 [(0, .ref h0), (1, .int 0), (2, .int p1)] := hl
  refine lv_aload_n hx hb dX7_way_0 rfl (lv_at hl 0 rfl) ?_
  refine lv_iconst (v := 0) hx hb dX7_way_1 (by decide) ?_
  refine va_put (ci := 7) (v := .int 0) (ty := .int) (C := RX7) (T := TX7) (N := 22) hx hb ht inX7 tyX7 tyX7_ok nmX7 hown hK.1 hP hD hS 0 rfl rfl 0 (by decide) (ht _ q_666) (fun _ h9 => h9) rfl (by decide +kernel) rfl rfl (Nat.le_of_ble_eq_true rfl) dX7_way_2 (fun H1 locs1 hP1 hD1 hS1 => ?_)
  have hP2 : va_P G.1 vwCl ([(h0, .inr (7, cM (upd Z 0 0) q1 q2 q3 q4 q5 q6 q7 q8 q9 q10 q11 sd)), (q4, .inl (G.2.1, 55, .inl pg))]) H1 := hP1
  have hD3 : va_D A ([(h0, .inr (7, cM (upd Z 0 0) q1 q2 q3 q4 q5 q6 q7 q8 q9 q10 q11 sd)), (q4, .inl (G.2.1, 55, .inl pg))]) := hD1
  refine lv_iload_n hx hb dX7_way_5 rfl (lv_at hl 1 rfl) ?_
  refine k_calli (kRunS (As := [.int 0]) (rest := []) kx (c_X7_noEnd_0 l G ) q_824 q_822 q_36 q_823 nX7_noEnd ⟨Nat.le_of_ble_eq_true rfl, Nat.le_of_ble_eq_true rfl⟩ hK hP2 hD3 (kCtx_nil _) rfl hl.1 (Nat.le_of_ble_eq_true rfl) dX7_way_6 ⟨Nat.zero_le _, Nat.zero_le _⟩) hP2 hD3 hS1 hA (kCtx_nil _) (fun _ => rfl) (fun r1 _ H4 locs4 hw hP4 hD4 hS4 => ?_)
  have hr1 : 0 = r1 := (show r1 = 0 from hw).symm
  subst hr1
  have hP5 : va_P G.1 vwCl ([(h0, .inr (7, cM (upd Z 0 0) q1 q2 q3 q4 q5 q6 q7 q8 q9 q10 q11 sd)), (q4, .inl (G.2.1, 55, .inl pg))]) H4 := hP4
  have hD6 : va_D A ([(h0, .inr (7, cM (upd Z 0 0) q1 q2 q3 q4 q5 q6 q7 q8 q9 q10 q11 sd)), (q4, .inl (G.2.1, 55, .inl pg))]) := hD4
  refine lv_if_eq (x := 0) (tgt := 14) hx hb dX7_way_9 (by decide) (fun (c2 : 0 = 0) => ?_) (fun (c2 : ¬ (0 = 0)) => absurd (by decide) c2)
  refine lv_iload_n hx hb dX7_way_14 rfl (lv_at hl 2 rfl) ?_
  refine lv_if_ne (x := p1) (tgt := 30) hx hb dX7_way_15 (by decide) (fun (c3 : ¬ (p1 = 0)) => ?_) (fun (c3 : p1 = 0) => ?_)
  · skip
    refine lv_iload_n hx hb dX7_way_30 rfl (lv_at hl 2 rfl) ?_
    refine lv_iconst (v := 1) hx hb dX7_way_31 (by decide) ?_
    refine lv_icmp_ne (x := p1) (y := 1) (tgt := 50) hx hb dX7_way_32 (by decide) (fun (c4 : ¬ (p1 = 1)) => ?_) (fun (c4 : p1 = 1) => ?_)
    · skip
      refine lv_bipush (v := (-2)) hx hb dX7_way_50 (by decide) ?_
      have er : r_X7_way_0 pg p1 = (-2) := by rw [r_X7_way_0, if_neg c3, if_neg c4]
      have e0 : s_X7_way_0_Z Z p1 = upd Z 0 0 := by rw [s_X7_way_0_Z, if_neg c3, if_neg c4]
      exact k_iret kx hK hP5 hD6 hS4 (u := upd Z 0 0) rfl ⟨er.symm, e0.symm⟩ dX7_way_52
    · skip
      refine lv_aload_n hx hb dX7_way_35 rfl (lv_at hl 0 rfl) ?_
      refine va_get (ci := 7) (v := .ref q4) (C := RX7) (T := TX7) (N := 22) hx hb ht inX7 hown hK.1 hP5 0 rfl rfl 7 (by decide) (ht _ q_673) (fun _ h9 => h9) rfl dX7_way_36 ?_
      refine lv_bipush (v := 34) hx hb dX7_way_39 (by decide) ?_
      refine lv_bipush (v := 9) hx hb dX7_way_41 (by decide) ?_
      refine lv_iload_n hx hb dX7_way_43 rfl (lv_at hl 1 rfl) ?_
      refine lv_imul hx hb dX7_way_44 ?_
      refine k_top (y := 0) (by decide +kernel) ?_
      refine lv_iadd hx hb dX7_way_45 ?_
      refine k_top (y := 34) (by decide +kernel) ?_
      refine k_iald (v := (pg 34)) kx hK hP5 1 rfl 34 rfl (by decide) (by decide) rfl dX7_way_46 ?_
      refine lv_goto (tgt := 52) hx hb dX7_way_47 (by decide) ?_
      have er : r_X7_way_0 pg p1 = pg 34 := by rw [r_X7_way_0, if_neg c3, if_pos c4]
      have e0 : s_X7_way_0_Z Z p1 = upd Z 0 0 := by rw [s_X7_way_0_Z, if_neg c3, if_pos c4]
      exact k_iret kx hK hP5 hD6 hS4 (u := upd Z 0 0) rfl ⟨er.symm, e0.symm⟩ dX7_way_52
  · skip
    refine lv_aload_n hx hb dX7_way_18 rfl (lv_at hl 0 rfl) ?_
    refine va_get (ci := 7) (v := .ref q4) (C := RX7) (T := TX7) (N := 22) hx hb ht inX7 hown hK.1 hP5 0 rfl rfl 7 (by decide) (ht _ q_673) (fun _ h9 => h9) rfl dX7_way_19 ?_
    refine lv_bipush (v := 32) hx hb dX7_way_22 (by decide) ?_
    refine lv_iload_n hx hb dX7_way_24 rfl (lv_at hl 1 rfl) ?_
    refine lv_iadd hx hb dX7_way_25 ?_
    refine k_top (y := 32) (by decide +kernel) ?_
    refine k_iald (v := (pg 32)) kx hK hP5 1 rfl 32 rfl (by decide) (by decide) rfl dX7_way_26 ?_
    refine lv_goto (tgt := 52) hx hb dX7_way_27 (by decide) ?_
    have er : r_X7_way_0 pg p1 = pg 32 := by rw [r_X7_way_0, if_pos c3]
    have e0 : s_X7_way_0_Z Z p1 = upd Z 0 0 := by rw [s_X7_way_0_Z, if_pos c3]
    exact k_iret kx hK hP5 hD6 hS4 (u := upd Z 0 0) rfl ⟨er.symm, e0.symm⟩ dX7_way_52

def r_X7_end_1 (Z : Nat → Int32) (pg : Nat → Int32) (tr : Nat → Int32) (p1 : Int32) : Int32 := if (r_X7_in p1.toInt64 0 9) = 0 then (if p1 = 10 then (r_X7_paceOn_16 pg) else if p1 = 11 then (r_X7_limitOn_16 pg) else if p1 = 12 then (r_X7_noticed_1 (upd Z 0 0) pg tr) else if p1 = 13 then (r_X7_endured_1 (upd Z 0 0) pg tr) else (-2)) else pg (16 + p1.toNatClampNeg)
def s_X7_end_1_Z (Z : Nat → Int32) (pg : Nat → Int32) (tr : Nat → Int32) (p1 : Int32) : Nat → Int32 := if (r_X7_in p1.toInt64 0 9) = 0 then (if p1 = 10 then (upd Z 0 0) else if p1 = 11 then (upd Z 0 0) else if p1 = 12 then (s_X7_noticed_1_Z (upd Z 0 0) pg tr) else if p1 = 13 then (s_X7_endured_1_Z (upd Z 0 0) pg tr) else upd Z 0 0) else upd Z 0 0
def s_X7_end_1_tr (Z : Nat → Int32) (pg : Nat → Int32) (tr : Nat → Int32) (p1 : Int32) : Nat → Int32 := if (r_X7_in p1.toInt64 0 9) = 0 then (if p1 = 10 then tr else if p1 = 11 then tr else if p1 = 12 then (s_X7_noticed_1_tr (upd Z 0 0) pg tr) else if p1 = 13 then (s_X7_endured_1_tr (upd Z 0 0) pg tr) else tr) else tr
set_option maxHeartbeats 4000000 in
set_option maxRecDepth 100000 in
theorem c_X7_end_1 (l : Launch) (G : kG) (Z : Nat → Int32) (sd : Int64) (h0 : Nat) (q1 : Nat) (q2 : Nat) (q3 : Nat) (q4 : Nat) (q5 : Nat) (q6 : Nat) (q7 : Nat) (q8 : Nat) (q9 : Nat) (q10 : Nat) (q11 : Nat) (pg : Nat → Int32) (tr : Nat → Int32) (p1 : Int32) : cG l G yX7_end cX7_end 3 (some .int) 7 [.ref h0, .int 1, .int p1] ([(h0, .inr (7, cM Z q1 q2 q3 q4 q5 q6 q7 q8 q9 q10 q11 sd)), (q4, .inl (G.2.1, 55, .inl pg)), (q5, .inl (G.2.1, 55, .inl tr))]) (qI G (fun (r : Int32) (u : ((Nat → Int32) × (Nat → Int32))) => r = r_X7_end_1 Z pg tr p1 ∧ u.1 = s_X7_end_1_Z Z pg tr p1 ∧ u.2 = s_X7_end_1_tr Z pg tr p1) (fun u => [(h0, .inr (7, cM u.1 q1 q2 q3 q4 q5 q6 q7 q8 q9 q10 q11 sd)), (q4, .inl (G.2.1, 55, .inl pg)), (q5, .inl (G.2.1, 55, .inl u.2))])) := by
  refine kintro (by decide) (Nat.le_of_ble_eq_true rfl) ?_
  intro p e s m args below meth c A ls kx hK hP hD hS hA hl
  have kx : kX p s m args meth c cX7_end 3 (some .int) RX7 := kx
  have hx := kx.1
  have hb := kx.2.1
  have hown := kx.2.2.2.2.1
  have ht := kx.2.2.2.2.2.2
  have hl : lv_has ls 3 [(0, .ref h0), (1, .int 1), (2, .int p1)] := hl
  refine lv_aload_n hx hb dX7_end_0 rfl (lv_at hl 0 rfl) ?_
  refine lv_iconst (v := 0) hx hb dX7_end_1 (by decide) ?_
  refine va_put (ci := 7) (v := .int 0) (ty := .int) (C := RX7) (T := TX7) (N := 22) hx hb ht inX7 tyX7 tyX7_ok nmX7 hown hK.1 hP hD hS 0 rfl rfl 0 (by decide) (ht _ q_666) (fun _ h9 => h9) rfl (by decide +kernel) rfl rfl (Nat.le_of_ble_eq_true rfl) dX7_end_2 (fun H1 locs1 hP1 hD1 hS1 => ?_)
  have hP2 : va_P G.1 vwCl ([(h0, .inr (7, cM (upd Z 0 0) q1 q2 q3 q4 q5 q6 q7 q8 q9 q10 q11 sd)), (q4, .inl (G.2.1, 55, .inl pg)), (q5, .inl (G.2.1, 55, .inl tr))]) H1 := hP1
  have hD3 : va_D A ([(h0, .inr (7, cM (upd Z 0 0) q1 q2 q3 q4 q5 q6 q7 q8 q9 q10 q11 sd)), (q4, .inl (G.2.1, 55, .inl pg)), (q5, .inl (G.2.1, 55, .inl tr))]) := hD1
  refine lv_iload_n hx hb dX7_end_5 rfl (lv_at hl 1 rfl) ?_
  refine k_calli (kRunS (As := [.int 1]) (rest := []) kx (c_X7_noEnd_1 l G ) q_824 q_822 q_36 q_823 nX7_noEnd ⟨Nat.le_of_ble_eq_true rfl, Nat.le_of_ble_eq_true rfl⟩ hK hP2 hD3 (kCtx_nil _) rfl hl.1 (Nat.le_of_ble_eq_true rfl) dX7_end_6 ⟨Nat.zero_le _, Nat.zero_le _⟩) hP2 hD3 hS1 hA (kCtx_nil _) (fun _ => rfl) (fun r1 _ H4 locs4 hw hP4 hD4 hS4 => ?_)
  have hr1 : 0 = r1 := (show r1 = 0 from hw).symm
  subst hr1
  have hP5 : va_P G.1 vwCl ([(h0, .inr (7, cM (upd Z 0 0) q1 q2 q3 q4 q5 q6 q7 q8 q9 q10 q11 sd)), (q4, .inl (G.2.1, 55, .inl pg)), (q5, .inl (G.2.1, 55, .inl tr))]) H4 := hP4
  have hD6 : va_D A ([(h0, .inr (7, cM (upd Z 0 0) q1 q2 q3 q4 q5 q6 q7 q8 q9 q10 q11 sd)), (q4, .inl (G.2.1, 55, .inl pg)), (q5, .inl (G.2.1, 55, .inl tr))]) := hD4
  refine lv_if_eq (x := 0) (tgt := 14) hx hb dX7_end_9 (by decide) (fun (c2 : 0 = 0) => ?_) (fun (c2 : ¬ (0 = 0)) => absurd (by decide) c2)
  refine lv_iload_n hx hb dX7_end_14 rfl (lv_at hl 2 rfl) ?_
  refine lv_i2l (v := p1.toInt64) hx hb dX7_end_15 rfl ?_
  refine lv_lconst (v := 0) hx hb dX7_end_16 (by decide) ?_
  refine lv_ldc2 (v := 9) hx hb hown (ht _ q_825) dX7_end_17 ?_
  refine k_calli (kRunS (As := [.long p1.toInt64, .long 0, .long 9]) (rest := []) kx (c_X7_in l G p1.toInt64 0 9) q_740 q_738 q_36 q_739 nX7_in ⟨Nat.le_of_ble_eq_true rfl, Nat.le_of_ble_eq_true rfl⟩ hK hP5 hD6 (kCtx_nil _) rfl hl.1 (Nat.le_of_ble_eq_true rfl) dX7_end_20 ⟨Nat.zero_le _, Nat.zero_le _⟩) hP5 hD6 hS4 hA (kCtx_nil _) (fun _ => rfl) (fun r3 _ H7 locs7 hw hP7 hD7 hS7 => ?_)
  have hr3 : r_X7_in p1.toInt64 0 9 = r3 := (show r3 = r_X7_in p1.toInt64 0 9 from hw).symm
  have hP8 : va_P G.1 vwCl ([(h0, .inr (7, cM (upd Z 0 0) q1 q2 q3 q4 q5 q6 q7 q8 q9 q10 q11 sd)), (q4, .inl (G.2.1, 55, .inl pg)), (q5, .inl (G.2.1, 55, .inl tr))]) H7 := hP7
  have hD9 : va_D A ([(h0, .inr (7, cM (upd Z 0 0) q1 q2 q3 q4 q5 q6 q7 q8 q9 q10 q11 sd)), (q4, .inl (G.2.1, 55, .inl pg)), (q5, .inl (G.2.1, 55, .inl tr))]) := hD7
  refine lv_if_eq (x := r3) (tgt := 38) hx hb dX7_end_23 (by decide) (fun (c4 : r3 = 0) => ?_) (fun (c4 : ¬ (r3 = 0)) => ?_)
  · skip
    refine lv_iload_n hx hb dX7_end_38 rfl (lv_at hl 2 rfl) ?_
    by_cases c5 : p1 = 10
    · skip
      refine lv_tableIn (off := 29) (tgt := 68) hx hb dX7_end_39 (by rw [c5]; decide) (by rw [c5]; decide) (by rw [c5]; rfl) (by decide) ?_
      refine lv_aload_n hx hb dX7_end_68 rfl (lv_at hl 0 rfl) ?_
      refine va_get (ci := 7) (v := .ref q4) (C := RX7) (T := TX7) (N := 22) hx hb ht inX7 hown hK.1 hP8 0 rfl rfl 7 (by decide) (ht _ q_673) (fun _ h9 => h9) rfl dX7_end_69 ?_
      refine lv_bipush (v := 16) hx hb dX7_end_72 (by decide) ?_
      refine lv_iload_n hx hb dX7_end_74 rfl (lv_at hl 1 rfl) ?_
      refine lv_imul hx hb dX7_end_75 ?_
      refine k_top (y := 16) (by decide +kernel) ?_
      refine k_calli (kRunS (As := [.ref q4, .int 16]) (rest := []) kx (c_X7_paceOn_16 l G pg q4) q_817 q_815 q_36 q_816 nX7_paceOn ⟨Nat.le_of_ble_eq_true rfl, Nat.le_of_ble_eq_true rfl⟩ hK hP8 hD9 (kCtx_places _ _ [1] rfl rfl) rfl hl.1 (Nat.le_of_ble_eq_true rfl) dX7_end_76 ⟨Nat.zero_le _, Nat.zero_le _⟩) hP8 hD9 hS7 hA (kCtx_places _ _ [1] rfl rfl) (fun _ => rfl) (fun r6 _ H10 locs10 hw hP10 hD10 hS10 => ?_)
      have hr6 : r_X7_paceOn_16 pg = r6 := (show r6 = r_X7_paceOn_16 pg from hw).symm
      have hP11 : va_P G.1 vwCl ([(h0, .inr (7, cM (upd Z 0 0) q1 q2 q3 q4 q5 q6 q7 q8 q9 q10 q11 sd)), (q4, .inl (G.2.1, 55, .inl pg)), (q5, .inl (G.2.1, 55, .inl tr))]) H10 := hP10
      have hD12 : va_D A ([(h0, .inr (7, cM (upd Z 0 0) q1 q2 q3 q4 q5 q6 q7 q8 q9 q10 q11 sd)), (q4, .inl (G.2.1, 55, .inl pg)), (q5, .inl (G.2.1, 55, .inl tr))]) := hD10
      have er : r_X7_end_1 Z pg tr p1 = r6 := by rw [r_X7_end_1]; (try rw [hr3]); (try rw [hr6]); rw [if_pos c4, if_pos c5]
      have e0 : s_X7_end_1_Z Z pg tr p1 = upd Z 0 0 := by rw [s_X7_end_1_Z]; (try rw [hr3]); (try rw [hr6]); rw [if_pos c4, if_pos c5]
      have e1 : s_X7_end_1_tr Z pg tr p1 = tr := by rw [s_X7_end_1_tr]; (try rw [hr3]); (try rw [hr6]); rw [if_pos c4, if_pos c5]
      exact k_iret kx hK hP11 hD12 hS10 (u := (upd Z 0 0, tr)) rfl ⟨er.symm, e0.symm, e1.symm⟩ dX7_end_79
    · skip
      by_cases c7 : p1 = 11
      · skip
        refine lv_tableIn (off := 41) (tgt := 80) hx hb dX7_end_39 (by rw [c7]; decide) (by rw [c7]; decide) (by rw [c7]; rfl) (by decide) ?_
        refine lv_aload_n hx hb dX7_end_80 rfl (lv_at hl 0 rfl) ?_
        refine va_get (ci := 7) (v := .ref q4) (C := RX7) (T := TX7) (N := 22) hx hb ht inX7 hown hK.1 hP8 0 rfl rfl 7 (by decide) (ht _ q_673) (fun _ h9 => h9) rfl dX7_end_81 ?_
        refine lv_bipush (v := 16) hx hb dX7_end_84 (by decide) ?_
        refine lv_iload_n hx hb dX7_end_86 rfl (lv_at hl 1 rfl) ?_
        refine lv_imul hx hb dX7_end_87 ?_
        refine k_top (y := 16) (by decide +kernel) ?_
        refine k_calli (kRunS (As := [.ref q4, .int 16]) (rest := []) kx (c_X7_limitOn_16 l G pg q4) q_801 q_799 q_36 q_800 nX7_limitOn ⟨Nat.le_of_ble_eq_true rfl, Nat.le_of_ble_eq_true rfl⟩ hK hP8 hD9 (kCtx_places _ _ [1] rfl rfl) rfl hl.1 (Nat.le_of_ble_eq_true rfl) dX7_end_88 ⟨Nat.zero_le _, Nat.zero_le _⟩) hP8 hD9 hS7 hA (kCtx_places _ _ [1] rfl rfl) (fun _ => rfl) (fun r8 _ H13 locs13 hw hP13 hD13 hS13 => ?_)
        have hr8 : r_X7_limitOn_16 pg = r8 := (show r8 = r_X7_limitOn_16 pg from hw).symm
        have hP14 : va_P G.1 vwCl ([(h0, .inr (7, cM (upd Z 0 0) q1 q2 q3 q4 q5 q6 q7 q8 q9 q10 q11 sd)), (q4, .inl (G.2.1, 55, .inl pg)), (q5, .inl (G.2.1, 55, .inl tr))]) H13 := hP13
        have hD15 : va_D A ([(h0, .inr (7, cM (upd Z 0 0) q1 q2 q3 q4 q5 q6 q7 q8 q9 q10 q11 sd)), (q4, .inl (G.2.1, 55, .inl pg)), (q5, .inl (G.2.1, 55, .inl tr))]) := hD13
        have er : r_X7_end_1 Z pg tr p1 = r8 := by rw [r_X7_end_1]; (try rw [hr3]); (try rw [hr8]); rw [if_pos c4, if_neg c5, if_pos c7]
        have e0 : s_X7_end_1_Z Z pg tr p1 = upd Z 0 0 := by rw [s_X7_end_1_Z]; (try rw [hr3]); (try rw [hr8]); rw [if_pos c4, if_neg c5, if_pos c7]
        have e1 : s_X7_end_1_tr Z pg tr p1 = tr := by rw [s_X7_end_1_tr]; (try rw [hr3]); (try rw [hr8]); rw [if_pos c4, if_neg c5, if_pos c7]
        exact k_iret kx hK hP14 hD15 hS13 (u := (upd Z 0 0, tr)) rfl ⟨er.symm, e0.symm, e1.symm⟩ dX7_end_91
      · skip
        by_cases c9 : p1 = 12
        · skip
          refine lv_tableIn (off := 53) (tgt := 92) hx hb dX7_end_39 (by rw [c9]; decide) (by rw [c9]; decide) (by rw [c9]; rfl) (by decide) ?_
          refine lv_aload_n hx hb dX7_end_92 rfl (lv_at hl 0 rfl) ?_
          refine lv_iload_n hx hb dX7_end_93 rfl (lv_at hl 1 rfl) ?_
          refine k_calli (kRunV (As := [.int 1]) (rest := []) kx (c_X7_noticed_1 l G (upd Z 0 0) sd h0 q1 q2 q3 q4 q5 q6 q7 q8 q9 q10 q11 pg tr) q_829 q_826 q_36 q_828 q_21 nX7_noticed ⟨Nat.le_of_ble_eq_true rfl, Nat.le_of_ble_eq_true rfl⟩ hK hP8 hD9 (kCtx_all _) 0 7 rfl rfl rfl rfl hl.1 (Nat.le_of_ble_eq_true rfl) dX7_end_94 ⟨Nat.zero_le _, Nat.zero_le _⟩) hP8 hD9 hS7 hA (kCtx_all _) (fun _ => rfl) (fun r10 u H16 locs16 hw hP16 hD16 hS16 => ?_)
          obtain ⟨F11, F12⟩ := u
          obtain ⟨hr10, hF11, hF12⟩ := hw
          have hr10 : r_X7_noticed_1 (upd Z 0 0) pg tr = r10 := (show r10 = r_X7_noticed_1 (upd Z 0 0) pg tr from hr10).symm
          have hF11 : s_X7_noticed_1_Z (upd Z 0 0) pg tr = F11 := (show F11 = s_X7_noticed_1_Z (upd Z 0 0) pg tr from hF11).symm
          have hF12 : s_X7_noticed_1_tr (upd Z 0 0) pg tr = F12 := (show F12 = s_X7_noticed_1_tr (upd Z 0 0) pg tr from hF12).symm
          have hP17 : va_P G.1 vwCl ([(h0, .inr (7, cM F11 q1 q2 q3 q4 q5 q6 q7 q8 q9 q10 q11 sd)), (q4, .inl (G.2.1, 55, .inl pg)), (q5, .inl (G.2.1, 55, .inl F12))]) H16 := hP16
          have hD18 : va_D A ([(h0, .inr (7, cM F11 q1 q2 q3 q4 q5 q6 q7 q8 q9 q10 q11 sd)), (q4, .inl (G.2.1, 55, .inl pg)), (q5, .inl (G.2.1, 55, .inl F12))]) := hD16
          have er : r_X7_end_1 Z pg tr p1 = r10 := by rw [r_X7_end_1]; (try rw [hr3]); (try rw [hF11]); (try rw [hF12]); (try rw [hr10]); rw [if_pos c4, if_neg c5, if_neg c7, if_pos c9]
          have e0 : s_X7_end_1_Z Z pg tr p1 = F11 := by rw [s_X7_end_1_Z]; (try rw [hr3]); (try rw [hF11]); (try rw [hF12]); (try rw [hr10]); rw [if_pos c4, if_neg c5, if_neg c7, if_pos c9]
          have e1 : s_X7_end_1_tr Z pg tr p1 = F12 := by rw [s_X7_end_1_tr]; (try rw [hr3]); (try rw [hF11]); (try rw [hF12]); (try rw [hr10]); rw [if_pos c4, if_neg c5, if_neg c7, if_pos c9]
          exact k_iret kx hK hP17 hD18 hS16 (u := (F11, F12)) rfl ⟨er.symm, e0.symm, e1.symm⟩ dX7_end_97
        · skip
          by_cases c13 : p1 = 13
          · skip
            refine lv_tableIn (off := 59) (tgt := 98) hx hb dX7_end_39 (by rw [c13]; decide) (by rw [c13]; decide) (by rw [c13]; rfl) (by decide) ?_
            refine lv_aload_n hx hb dX7_end_98 rfl (lv_at hl 0 rfl) ?_
            refine lv_iload_n hx hb dX7_end_99 rfl (lv_at hl 1 rfl) ?_
            refine k_calli (kRunV (As := [.int 1]) (rest := []) kx (c_X7_endured_1 l G (upd Z 0 0) sd h0 q1 q2 q3 q4 q5 q6 q7 q8 q9 q10 q11 pg tr) q_833 q_830 q_36 q_832 q_22 nX7_endured ⟨Nat.le_of_ble_eq_true rfl, Nat.le_of_ble_eq_true rfl⟩ hK hP8 hD9 (kCtx_all _) 0 7 rfl rfl rfl rfl hl.1 (Nat.le_of_ble_eq_true rfl) dX7_end_100 ⟨Nat.zero_le _, Nat.zero_le _⟩) hP8 hD9 hS7 hA (kCtx_all _) (fun _ => rfl) (fun r14 u H19 locs19 hw hP19 hD19 hS19 => ?_)
            obtain ⟨F15, F16⟩ := u
            obtain ⟨hr14, hF15, hF16⟩ := hw
            have hr14 : r_X7_endured_1 (upd Z 0 0) pg tr = r14 := (show r14 = r_X7_endured_1 (upd Z 0 0) pg tr from hr14).symm
            have hF15 : s_X7_endured_1_Z (upd Z 0 0) pg tr = F15 := (show F15 = s_X7_endured_1_Z (upd Z 0 0) pg tr from hF15).symm
            have hF16 : s_X7_endured_1_tr (upd Z 0 0) pg tr = F16 := (show F16 = s_X7_endured_1_tr (upd Z 0 0) pg tr from hF16).symm
            have hP20 : va_P G.1 vwCl ([(h0, .inr (7, cM F15 q1 q2 q3 q4 q5 q6 q7 q8 q9 q10 q11 sd)), (q4, .inl (G.2.1, 55, .inl pg)), (q5, .inl (G.2.1, 55, .inl F16))]) H19 := hP19
            have hD21 : va_D A ([(h0, .inr (7, cM F15 q1 q2 q3 q4 q5 q6 q7 q8 q9 q10 q11 sd)), (q4, .inl (G.2.1, 55, .inl pg)), (q5, .inl (G.2.1, 55, .inl F16))]) := hD19
            have er : r_X7_end_1 Z pg tr p1 = r14 := by rw [r_X7_end_1]; (try rw [hr3]); (try rw [hF15]); (try rw [hF16]); (try rw [hr14]); rw [if_pos c4, if_neg c5, if_neg c7, if_neg c9, if_pos c13]
            have e0 : s_X7_end_1_Z Z pg tr p1 = F15 := by rw [s_X7_end_1_Z]; (try rw [hr3]); (try rw [hF15]); (try rw [hF16]); (try rw [hr14]); rw [if_pos c4, if_neg c5, if_neg c7, if_neg c9, if_pos c13]
            have e1 : s_X7_end_1_tr Z pg tr p1 = F16 := by rw [s_X7_end_1_tr]; (try rw [hr3]); (try rw [hF15]); (try rw [hF16]); (try rw [hr14]); rw [if_pos c4, if_neg c5, if_neg c7, if_neg c9, if_pos c13]
            exact k_iret kx hK hP20 hD21 hS19 (u := (F15, F16)) rfl ⟨er.symm, e0.symm, e1.symm⟩ dX7_end_103
          · skip
            have nc5 := lv_neT (a := 10) c5 (by decide)
            have nc7 := lv_neT (a := 11) c7 (by decide)
            have nc9 := lv_neT (a := 12) c9 (by decide)
            have nc13 := lv_neT (a := 13) c13 (by decide)
            refine lv_tableOut (tgt := 104) hx hb dX7_end_39 (by omega) (by decide) ?_
            refine lv_bipush (v := (-2)) hx hb dX7_end_104 (by decide) ?_
            have er : r_X7_end_1 Z pg tr p1 = (-2) := by rw [r_X7_end_1]; (try rw [hr3]); rw [if_pos c4, if_neg c5, if_neg c7, if_neg c9, if_neg c13]
            have e0 : s_X7_end_1_Z Z pg tr p1 = upd Z 0 0 := by rw [s_X7_end_1_Z]; (try rw [hr3]); rw [if_pos c4, if_neg c5, if_neg c7, if_neg c9, if_neg c13]
            have e1 : s_X7_end_1_tr Z pg tr p1 = tr := by rw [s_X7_end_1_tr]; (try rw [hr3]); rw [if_pos c4, if_neg c5, if_neg c7, if_neg c9, if_neg c13]
            exact k_iret kx hK hP8 hD9 hS7 (u := (upd Z 0 0, tr)) rfl ⟨er.symm, e0.symm, e1.symm⟩ dX7_end_106
  · skip
    obtain ⟨nnc4, nmc4⟩ := kin_of (x := p1) (a := 0) (N := 9) (by rw [hr3]; exact c4) (by decide) (by decide)
    refine lv_aload_n hx hb dX7_end_26 rfl (lv_at hl 0 rfl) ?_
    refine va_get (ci := 7) (v := .ref q4) (C := RX7) (T := TX7) (N := 22) hx hb ht inX7 hown hK.1 hP8 0 rfl rfl 7 (by decide) (ht _ q_673) (fun _ h9 => h9) rfl dX7_end_27 ?_
    refine lv_bipush (v := 16) hx hb dX7_end_30 (by decide) ?_
    refine lv_iload_n hx hb dX7_end_32 rfl (lv_at hl 1 rfl) ?_
    refine lv_imul hx hb dX7_end_33 ?_
    refine k_top (y := 16) (by decide +kernel) ?_
    refine lv_iload_n hx hb dX7_end_34 rfl (lv_at hl 2 rfl) ?_
    refine lv_iadd hx hb dX7_end_35 ?_
    refine k_iald (v := (pg (16 + p1.toNatClampNeg))) kx hK hP8 1 rfl (16 + p1.toNatClampNeg) (kadd rfl nnc4) (by omega) (by decide) rfl dX7_end_36 ?_
    have er : r_X7_end_1 Z pg tr p1 = pg (16 + p1.toNatClampNeg) := by rw [r_X7_end_1]; (try rw [hr3]); rw [if_neg c4]
    have e0 : s_X7_end_1_Z Z pg tr p1 = upd Z 0 0 := by rw [s_X7_end_1_Z]; (try rw [hr3]); rw [if_neg c4]
    have e1 : s_X7_end_1_tr Z pg tr p1 = tr := by rw [s_X7_end_1_tr]; (try rw [hr3]); rw [if_neg c4]
    exact k_iret kx hK hP8 hD9 hS7 (u := (upd Z 0 0, tr)) rfl ⟨er.symm, e0.symm, e1.symm⟩ dX7_end_37

def r_X7_known_1 (pg : Nat → Int32) (p1 : Int32) : Int32 := if (r_X7_in p1.toInt64 0 4) = 0 then (-2) else pg (27 + p1.toNatClampNeg)
def s_X7_known_1_Z (Z : Nat → Int32) (p1 : Int32) : Nat → Int32 := if (r_X7_in p1.toInt64 0 4) = 0 then (upd Z 0 0) else upd Z 0 0
set_option maxHeartbeats 4000000 in
set_option maxRecDepth 100000 in
theorem c_X7_known_1 (l : Launch) (G : kG) (Z : Nat → Int32) (sd : Int64) (h0 : Nat) (q1 : Nat) (q2 : Nat) (q3 : Nat) (q4 : Nat) (q5 : Nat) (q6 : Nat) (q7 : Nat) (q8 : Nat) (q9 : Nat) (q10 : Nat) (q11 : Nat) (pg : Nat → Int32) (p1 : Int32) : cG l G yX7_known cX7_known 3 (some .int) 2 [.ref h0, .int 1, .int p1] ([(h0, .inr (7, cM Z q1 q2 q3 q4 q5 q6 q7 q8 q9 q10 q11 sd)), (q4, .inl (G.2.1, 55, .inl pg))]) (qI G (fun (r : Int32) (u : (Nat → Int32)) => r = r_X7_known_1 pg p1 ∧ u = s_X7_known_1_Z Z p1) (fun u => [(h0, .inr (7, cM u q1 q2 q3 q4 q5 q6 q7 q8 q9 q10 q11 sd)), (q4, .inl (G.2.1, 55, .inl pg))])) := by
  refine kintro (by decide) (Nat.le_of_ble_eq_true rfl) ?_
  intro p e s m args below meth c A ls kx hK hP hD hS hA hl
  have kx : kX p s m args meth c cX7_known 3 (some .int) RX7 := kx
  have hx := kx.1
  have hb := kx.2.1
  have hown := kx.2.2.2.2.1
  have ht := kx.2.2.2.2.2.2
  have hl : lv_has ls 3 [(0, .ref h0), (1, .int 1), (2, .int p1)] := hl
  refine lv_aload_n hx hb dX7_known_0 rfl (lv_at hl 0 rfl) ?_
  refine lv_iconst (v := 0) hx hb dX7_known_1 (by decide) ?_
  refine va_put (ci := 7) (v := .int 0) (ty := .int) (C := RX7) (T := TX7) (N := 22) hx hb ht inX7 tyX7 tyX7_ok nmX7 hown hK.1 hP hD hS 0 rfl rfl 0 (by decide) (ht _ q_666) (fun _ h9 => h9) rfl (by decide +kernel) rfl rfl (Nat.le_of_ble_eq_true rfl) dX7_known_2 (fun H1 locs1 hP1 hD1 hS1 => ?_)
  have hP2 : va_P G.1 vwCl ([(h0, .inr (7, cM (upd Z 0 0) q1 q2 q3 q4 q5 q6 q7 q8 q9 q10 q11 sd)), (q4, .inl (G.2.1, 55, .inl pg))]) H1 := hP1
  have hD3 : va_D A ([(h0, .inr (7, cM (upd Z 0 0) q1 q2 q3 q4 q5 q6 q7 q8 q9 q10 q11 sd)), (q4, .inl (G.2.1, 55, .inl pg))]) := hD1
  refine lv_iload_n hx hb dX7_known_5 rfl (lv_at hl 1 rfl) ?_
  refine k_calli (kRunS (As := [.int 1]) (rest := []) kx (c_X7_noEnd_1 l G ) q_824 q_822 q_36 q_823 nX7_noEnd ⟨Nat.le_of_ble_eq_true rfl, Nat.le_of_ble_eq_true rfl⟩ hK hP2 hD3 (kCtx_nil _) rfl hl.1 (Nat.le_of_ble_eq_true rfl) dX7_known_6 ⟨Nat.zero_le _, Nat.zero_le _⟩) hP2 hD3 hS1 hA (kCtx_nil _) (fun _ => rfl) (fun r1 _ H4 locs4 hw hP4 hD4 hS4 => ?_)
  have hr1 : 0 = r1 := (show r1 = 0 from hw).symm
  subst hr1
  have hP5 : va_P G.1 vwCl ([(h0, .inr (7, cM (upd Z 0 0) q1 q2 q3 q4 q5 q6 q7 q8 q9 q10 q11 sd)), (q4, .inl (G.2.1, 55, .inl pg))]) H4 := hP4
  have hD6 : va_D A ([(h0, .inr (7, cM (upd Z 0 0) q1 q2 q3 q4 q5 q6 q7 q8 q9 q10 q11 sd)), (q4, .inl (G.2.1, 55, .inl pg))]) := hD4
  refine lv_if_eq (x := 0) (tgt := 14) hx hb dX7_known_9 (by decide) (fun (c2 : 0 = 0) => ?_) (fun (c2 : ¬ (0 = 0)) => absurd (by decide) c2)
  refine lv_iload_n hx hb dX7_known_14 rfl (lv_at hl 2 rfl) ?_
  refine lv_i2l (v := p1.toInt64) hx hb dX7_known_15 rfl ?_
  refine lv_lconst (v := 0) hx hb dX7_known_16 (by decide) ?_
  refine lv_ldc2 (v := 4) hx hb hown (ht _ q_842) dX7_known_17 ?_
  refine k_calli (kRunS (As := [.long p1.toInt64, .long 0, .long 4]) (rest := []) kx (c_X7_in l G p1.toInt64 0 4) q_740 q_738 q_36 q_739 nX7_in ⟨Nat.le_of_ble_eq_true rfl, Nat.le_of_ble_eq_true rfl⟩ hK hP5 hD6 (kCtx_nil _) rfl hl.1 (Nat.le_of_ble_eq_true rfl) dX7_known_20 ⟨Nat.zero_le _, Nat.zero_le _⟩) hP5 hD6 hS4 hA (kCtx_nil _) (fun _ => rfl) (fun r3 _ H7 locs7 hw hP7 hD7 hS7 => ?_)
  have hr3 : r_X7_in p1.toInt64 0 4 = r3 := (show r3 = r_X7_in p1.toInt64 0 4 from hw).symm
  have hP8 : va_P G.1 vwCl ([(h0, .inr (7, cM (upd Z 0 0) q1 q2 q3 q4 q5 q6 q7 q8 q9 q10 q11 sd)), (q4, .inl (G.2.1, 55, .inl pg))]) H7 := hP7
  have hD9 : va_D A ([(h0, .inr (7, cM (upd Z 0 0) q1 q2 q3 q4 q5 q6 q7 q8 q9 q10 q11 sd)), (q4, .inl (G.2.1, 55, .inl pg))]) := hD7
  refine lv_if_eq (x := r3) (tgt := 43) hx hb dX7_known_23 (by decide) (fun (c4 : r3 = 0) => ?_) (fun (c4 : ¬ (r3 = 0)) => ?_)
  · skip
    refine lv_bipush (v := (-2)) hx hb dX7_known_43 (by decide) ?_
    have er : r_X7_known_1 pg p1 = (-2) := by rw [r_X7_known_1]; (try rw [hr3]); rw [if_pos c4]
    have e0 : s_X7_known_1_Z Z p1 = upd Z 0 0 := by rw [s_X7_known_1_Z]; (try rw [hr3]); rw [if_pos c4]
    exact k_iret kx hK hP8 hD9 hS7 (u := upd Z 0 0) rfl ⟨er.symm, e0.symm⟩ dX7_known_45
  · skip
    obtain ⟨nnc4, nmc4⟩ := kin_of (x := p1) (a := 0) (N := 4) (by rw [hr3]; exact c4) (by decide) (by decide)
    refine lv_aload_n hx hb dX7_known_26 rfl (lv_at hl 0 rfl) ?_
    refine va_get (ci := 7) (v := .ref q4) (C := RX7) (T := TX7) (N := 22) hx hb ht inX7 hown hK.1 hP8 0 rfl rfl 7 (by decide) (ht _ q_673) (fun _ h9 => h9) rfl dX7_known_27 ?_
    refine lv_bipush (v := 16) hx hb dX7_known_30 (by decide) ?_
    refine lv_iload_n hx hb dX7_known_32 rfl (lv_at hl 1 rfl) ?_
    refine lv_imul hx hb dX7_known_33 ?_
    refine k_top (y := 16) (by decide +kernel) ?_
    refine lv_bipush (v := 11) hx hb dX7_known_34 (by decide) ?_
    refine lv_iadd hx hb dX7_known_36 ?_
    refine k_top (y := 27) (by decide +kernel) ?_
    refine lv_iload_n hx hb dX7_known_37 rfl (lv_at hl 2 rfl) ?_
    refine lv_iadd hx hb dX7_known_38 ?_
    refine k_iald (v := (pg (27 + p1.toNatClampNeg))) kx hK hP8 1 rfl (27 + p1.toNatClampNeg) (kadd rfl nnc4) (by omega) (by decide) rfl dX7_known_39 ?_
    refine lv_goto (tgt := 45) hx hb dX7_known_40 (by decide) ?_
    have er : r_X7_known_1 pg p1 = pg (27 + p1.toNatClampNeg) := by rw [r_X7_known_1]; (try rw [hr3]); rw [if_neg c4]
    have e0 : s_X7_known_1_Z Z p1 = upd Z 0 0 := by rw [s_X7_known_1_Z]; (try rw [hr3]); rw [if_neg c4]
    exact k_iret kx hK hP8 hD9 hS7 (u := upd Z 0 0) rfl ⟨er.symm, e0.symm⟩ dX7_known_45

def r_X7_way_1 (pg : Nat → Int32) (p1 : Int32) : Int32 := if p1 = 0 then (pg 33) else if p1 = 1 then (pg 43) else (-2)
def s_X7_way_1_Z (Z : Nat → Int32) (p1 : Int32) : Nat → Int32 := if p1 = 0 then (upd Z 0 0) else if p1 = 1 then (upd Z 0 0) else upd Z 0 0
set_option maxHeartbeats 4000000 in
set_option maxRecDepth 100000 in
theorem c_X7_way_1 (l : Launch) (G : kG) (Z : Nat → Int32) (sd : Int64) (h0 : Nat) (q1 : Nat) (q2 : Nat) (q3 : Nat) (q4 : Nat) (q5 : Nat) (q6 : Nat) (q7 : Nat) (q8 : Nat) (q9 : Nat) (q10 : Nat) (q11 : Nat) (pg : Nat → Int32) (p1 : Int32) : cG l G yX7_way cX7_way 3 (some .int) 2 [.ref h0, .int 1, .int p1] ([(h0, .inr (7, cM Z q1 q2 q3 q4 q5 q6 q7 q8 q9 q10 q11 sd)), (q4, .inl (G.2.1, 55, .inl pg))]) (qI G (fun (r : Int32) (u : (Nat → Int32)) => r = r_X7_way_1 pg p1 ∧ u = s_X7_way_1_Z Z p1) (fun u => [(h0, .inr (7, cM u q1 q2 q3 q4 q5 q6 q7 q8 q9 q10 q11 sd)), (q4, .inl (G.2.1, 55, .inl pg))])) := by
  refine kintro (by decide) (Nat.le_of_ble_eq_true rfl) ?_
  intro p e s m args below meth c A ls kx hK hP hD hS hA hl
  have kx : kX p s m args meth c cX7_way 3 (some .int) RX7 := kx
  have hx := kx.1
  have hb := kx.2.1
  have hown := kx.2.2.2.2.1
  have ht := kx.2.2.2.2.2.2
  have hl : lv_has ls 3 [(0, .ref h0), (1, .int 1), (2, .int p1)] := hl
  refine lv_aload_n hx hb dX7_way_0 rfl (lv_at hl 0 rfl) ?_
  refine lv_iconst (v := 0) hx hb dX7_way_1 (by decide) ?_
  refine va_put (ci := 7) (v := .int 0) (ty := .int) (C := RX7) (T := TX7) (N := 22) hx hb ht inX7 tyX7 tyX7_ok nmX7 hown hK.1 hP hD hS 0 rfl rfl 0 (by decide) (ht _ q_666) (fun _ h9 => h9) rfl (by decide +kernel) rfl rfl (Nat.le_of_ble_eq_true rfl) dX7_way_2 (fun H1 locs1 hP1 hD1 hS1 => ?_)
  have hP2 : va_P G.1 vwCl ([(h0, .inr (7, cM (upd Z 0 0) q1 q2 q3 q4 q5 q6 q7 q8 q9 q10 q11 sd)), (q4, .inl (G.2.1, 55, .inl pg))]) H1 := hP1
  have hD3 : va_D A ([(h0, .inr (7, cM (upd Z 0 0) q1 q2 q3 q4 q5 q6 q7 q8 q9 q10 q11 sd)), (q4, .inl (G.2.1, 55, .inl pg))]) := hD1
  refine lv_iload_n hx hb dX7_way_5 rfl (lv_at hl 1 rfl) ?_
  refine k_calli (kRunS (As := [.int 1]) (rest := []) kx (c_X7_noEnd_1 l G ) q_824 q_822 q_36 q_823 nX7_noEnd ⟨Nat.le_of_ble_eq_true rfl, Nat.le_of_ble_eq_true rfl⟩ hK hP2 hD3 (kCtx_nil _) rfl hl.1 (Nat.le_of_ble_eq_true rfl) dX7_way_6 ⟨Nat.zero_le _, Nat.zero_le _⟩) hP2 hD3 hS1 hA (kCtx_nil _) (fun _ => rfl) (fun r1 _ H4 locs4 hw hP4 hD4 hS4 => ?_)
  have hr1 : 0 = r1 := (show r1 = 0 from hw).symm
  subst hr1
  have hP5 : va_P G.1 vwCl ([(h0, .inr (7, cM (upd Z 0 0) q1 q2 q3 q4 q5 q6 q7 q8 q9 q10 q11 sd)), (q4, .inl (G.2.1, 55, .inl pg))]) H4 := hP4
  have hD6 : va_D A ([(h0, .inr (7, cM (upd Z 0 0) q1 q2 q3 q4 q5 q6 q7 q8 q9 q10 q11 sd)), (q4, .inl (G.2.1, 55, .inl pg))]) := hD4
  refine lv_if_eq (x := 0) (tgt := 14) hx hb dX7_way_9 (by decide) (fun (c2 : 0 = 0) => ?_) (fun (c2 : ¬ (0 = 0)) => absurd (by decide) c2)
  refine lv_iload_n hx hb dX7_way_14 rfl (lv_at hl 2 rfl) ?_
  refine lv_if_ne (x := p1) (tgt := 30) hx hb dX7_way_15 (by decide) (fun (c3 : ¬ (p1 = 0)) => ?_) (fun (c3 : p1 = 0) => ?_)
  · skip
    refine lv_iload_n hx hb dX7_way_30 rfl (lv_at hl 2 rfl) ?_
    refine lv_iconst (v := 1) hx hb dX7_way_31 (by decide) ?_
    refine lv_icmp_ne (x := p1) (y := 1) (tgt := 50) hx hb dX7_way_32 (by decide) (fun (c4 : ¬ (p1 = 1)) => ?_) (fun (c4 : p1 = 1) => ?_)
    · skip
      refine lv_bipush (v := (-2)) hx hb dX7_way_50 (by decide) ?_
      have er : r_X7_way_1 pg p1 = (-2) := by rw [r_X7_way_1, if_neg c3, if_neg c4]
      have e0 : s_X7_way_1_Z Z p1 = upd Z 0 0 := by rw [s_X7_way_1_Z, if_neg c3, if_neg c4]
      exact k_iret kx hK hP5 hD6 hS4 (u := upd Z 0 0) rfl ⟨er.symm, e0.symm⟩ dX7_way_52
    · skip
      refine lv_aload_n hx hb dX7_way_35 rfl (lv_at hl 0 rfl) ?_
      refine va_get (ci := 7) (v := .ref q4) (C := RX7) (T := TX7) (N := 22) hx hb ht inX7 hown hK.1 hP5 0 rfl rfl 7 (by decide) (ht _ q_673) (fun _ h9 => h9) rfl dX7_way_36 ?_
      refine lv_bipush (v := 34) hx hb dX7_way_39 (by decide) ?_
      refine lv_bipush (v := 9) hx hb dX7_way_41 (by decide) ?_
      refine lv_iload_n hx hb dX7_way_43 rfl (lv_at hl 1 rfl) ?_
      refine lv_imul hx hb dX7_way_44 ?_
      refine k_top (y := 9) (by decide +kernel) ?_
      refine lv_iadd hx hb dX7_way_45 ?_
      refine k_top (y := 43) (by decide +kernel) ?_
      refine k_iald (v := (pg 43)) kx hK hP5 1 rfl 43 rfl (by decide) (by decide) rfl dX7_way_46 ?_
      refine lv_goto (tgt := 52) hx hb dX7_way_47 (by decide) ?_
      have er : r_X7_way_1 pg p1 = pg 43 := by rw [r_X7_way_1, if_neg c3, if_pos c4]
      have e0 : s_X7_way_1_Z Z p1 = upd Z 0 0 := by rw [s_X7_way_1_Z, if_neg c3, if_pos c4]
      exact k_iret kx hK hP5 hD6 hS4 (u := upd Z 0 0) rfl ⟨er.symm, e0.symm⟩ dX7_way_52
  · skip
    refine lv_aload_n hx hb dX7_way_18 rfl (lv_at hl 0 rfl) ?_
    refine va_get (ci := 7) (v := .ref q4) (C := RX7) (T := TX7) (N := 22) hx hb ht inX7 hown hK.1 hP5 0 rfl rfl 7 (by decide) (ht _ q_673) (fun _ h9 => h9) rfl dX7_way_19 ?_
    refine lv_bipush (v := 32) hx hb dX7_way_22 (by decide) ?_
    refine lv_iload_n hx hb dX7_way_24 rfl (lv_at hl 1 rfl) ?_
    refine lv_iadd hx hb dX7_way_25 ?_
    refine k_top (y := 33) (by decide +kernel) ?_
    refine k_iald (v := (pg 33)) kx hK hP5 1 rfl 33 rfl (by decide) (by decide) rfl dX7_way_26 ?_
    refine lv_goto (tgt := 52) hx hb dX7_way_27 (by decide) ?_
    have er : r_X7_way_1 pg p1 = pg 33 := by rw [r_X7_way_1, if_pos c3]
    have e0 : s_X7_way_1_Z Z p1 = upd Z 0 0 := by rw [s_X7_way_1_Z, if_pos c3]
    exact k_iret kx hK hP5 hD6 hS4 (u := upd Z 0 0) rfl ⟨er.symm, e0.symm⟩ dX7_way_52

set_option maxHeartbeats 4000000 in
set_option maxRecDepth 100000 in
theorem c_X7_end_x (l : Launch) (G : kG) (Z : Nat → Int32) (sd : Int64) (h0 : Nat) (q1 : Nat) (q2 : Nat) (q3 : Nat) (q4 : Nat) (q5 : Nat) (q6 : Nat) (q7 : Nat) (q8 : Nat) (q9 : Nat) (q10 : Nat) (q11 : Nat) (p0 : Int32) (p1 : Int32) (h9 : ¬ p0 = 0) (h8 : ¬ p0 = 1) : cG l G yX7_end cX7_end 3 (some .int) 2 [.ref h0, .int p0, .int p1] ([(h0, .inr (7, cM Z q1 q2 q3 q4 q5 q6 q7 q8 q9 q10 q11 sd))]) (qI G (fun (r : Int32) (_ : Unit) => r = (-1)) (fun _ => [(h0, .inr (7, cM (upd Z 0 0) q1 q2 q3 q4 q5 q6 q7 q8 q9 q10 q11 sd))])) := by
  refine kintro (by decide) (Nat.le_of_ble_eq_true rfl) ?_
  intro p e s m args below meth c A ls kx hK hP hD hS hA hl
  have kx : kX p s m args meth c cX7_end 3 (some .int) RX7 := kx
  have hx := kx.1
  have hb := kx.2.1
  have hown := kx.2.2.2.2.1
  have ht := kx.2.2.2.2.2.2
  have hl : lv_has ls 3 [(0, .ref h0), (1, .int p0), (2, .int p1)] := hl
  refine lv_aload_n hx hb dX7_end_0 rfl (lv_at hl 0 rfl) ?_
  refine lv_iconst (v := 0) hx hb dX7_end_1 (by decide) ?_
  refine va_put (ci := 7) (v := .int 0) (ty := .int) (C := RX7) (T := TX7) (N := 22) hx hb ht inX7 tyX7 tyX7_ok nmX7 hown hK.1 hP hD hS 0 rfl rfl 0 (by decide) (ht _ q_666) (fun _ h9 => h9) rfl (by decide +kernel) rfl rfl (Nat.le_of_ble_eq_true rfl) dX7_end_2 (fun H1 locs1 hP1 hD1 hS1 => ?_)
  have hP2 : va_P G.1 vwCl ([(h0, .inr (7, cM (upd Z 0 0) q1 q2 q3 q4 q5 q6 q7 q8 q9 q10 q11 sd))]) H1 := hP1
  have hD3 : va_D A ([(h0, .inr (7, cM (upd Z 0 0) q1 q2 q3 q4 q5 q6 q7 q8 q9 q10 q11 sd))]) := hD1
  refine lv_iload_n hx hb dX7_end_5 rfl (lv_at hl 1 rfl) ?_
  refine k_calli (kRunS (As := [.int p0]) (rest := []) kx (c_X7_noEnd_x l G p0 h9 h8) q_824 q_822 q_36 q_823 nX7_noEnd ⟨Nat.le_of_ble_eq_true rfl, Nat.le_of_ble_eq_true rfl⟩ hK hP2 hD3 (kCtx_nil _) rfl hl.1 (Nat.le_of_ble_eq_true rfl) dX7_end_6 ⟨Nat.zero_le _, Nat.zero_le _⟩) hP2 hD3 hS1 hA (kCtx_nil _) (fun _ => rfl) (fun r1 _ H4 locs4 hw hP4 hD4 hS4 => ?_)
  have hr1 : 1 = r1 := (show r1 = 1 from hw).symm
  subst hr1
  have hP5 : va_P G.1 vwCl ([(h0, .inr (7, cM (upd Z 0 0) q1 q2 q3 q4 q5 q6 q7 q8 q9 q10 q11 sd))]) H4 := hP4
  have hD6 : va_D A ([(h0, .inr (7, cM (upd Z 0 0) q1 q2 q3 q4 q5 q6 q7 q8 q9 q10 q11 sd))]) := hD4
  refine lv_if_eq (x := 1) (tgt := 14) hx hb dX7_end_9 (by decide) (fun (c2 : 1 = 0) => absurd c2 (by decide)) (fun (c2 : ¬ (1 = 0)) => ?_)
  refine lv_iconst (v := (-1)) hx hb dX7_end_12 (by decide) ?_
  exact k_iret kx hK hP5 hD6 hS4 (u := ()) rfl rfl dX7_end_13

set_option maxHeartbeats 4000000 in
set_option maxRecDepth 100000 in
theorem c_X7_known_x (l : Launch) (G : kG) (Z : Nat → Int32) (sd : Int64) (h0 : Nat) (q1 : Nat) (q2 : Nat) (q3 : Nat) (q4 : Nat) (q5 : Nat) (q6 : Nat) (q7 : Nat) (q8 : Nat) (q9 : Nat) (q10 : Nat) (q11 : Nat) (p0 : Int32) (p1 : Int32) (h9 : ¬ p0 = 0) (h8 : ¬ p0 = 1) : cG l G yX7_known cX7_known 3 (some .int) 2 [.ref h0, .int p0, .int p1] ([(h0, .inr (7, cM Z q1 q2 q3 q4 q5 q6 q7 q8 q9 q10 q11 sd))]) (qI G (fun (r : Int32) (_ : Unit) => r = (-1)) (fun _ => [(h0, .inr (7, cM (upd Z 0 0) q1 q2 q3 q4 q5 q6 q7 q8 q9 q10 q11 sd))])) := by
  refine kintro (by decide) (Nat.le_of_ble_eq_true rfl) ?_
  intro p e s m args below meth c A ls kx hK hP hD hS hA hl
  have kx : kX p s m args meth c cX7_known 3 (some .int) RX7 := kx
  have hx := kx.1
  have hb := kx.2.1
  have hown := kx.2.2.2.2.1
  have ht := kx.2.2.2.2.2.2
  have hl : lv_has ls 3 [(0, .ref h0), (1, .int p0), (2, .int p1)] := hl
  refine lv_aload_n hx hb dX7_known_0 rfl (lv_at hl 0 rfl) ?_
  refine lv_iconst (v := 0) hx hb dX7_known_1 (by decide) ?_
  refine va_put (ci := 7) (v := .int 0) (ty := .int) (C := RX7) (T := TX7) (N := 22) hx hb ht inX7 tyX7 tyX7_ok nmX7 hown hK.1 hP hD hS 0 rfl rfl 0 (by decide) (ht _ q_666) (fun _ h9 => h9) rfl (by decide +kernel) rfl rfl (Nat.le_of_ble_eq_true rfl) dX7_known_2 (fun H1 locs1 hP1 hD1 hS1 => ?_)
  have hP2 : va_P G.1 vwCl ([(h0, .inr (7, cM (upd Z 0 0) q1 q2 q3 q4 q5 q6 q7 q8 q9 q10 q11 sd))]) H1 := hP1
  have hD3 : va_D A ([(h0, .inr (7, cM (upd Z 0 0) q1 q2 q3 q4 q5 q6 q7 q8 q9 q10 q11 sd))]) := hD1
  refine lv_iload_n hx hb dX7_known_5 rfl (lv_at hl 1 rfl) ?_
  refine k_calli (kRunS (As := [.int p0]) (rest := []) kx (c_X7_noEnd_x l G p0 h9 h8) q_824 q_822 q_36 q_823 nX7_noEnd ⟨Nat.le_of_ble_eq_true rfl, Nat.le_of_ble_eq_true rfl⟩ hK hP2 hD3 (kCtx_nil _) rfl hl.1 (Nat.le_of_ble_eq_true rfl) dX7_known_6 ⟨Nat.zero_le _, Nat.zero_le _⟩) hP2 hD3 hS1 hA (kCtx_nil _) (fun _ => rfl) (fun r1 _ H4 locs4 hw hP4 hD4 hS4 => ?_)
  have hr1 : 1 = r1 := (show r1 = 1 from hw).symm
  subst hr1
  have hP5 : va_P G.1 vwCl ([(h0, .inr (7, cM (upd Z 0 0) q1 q2 q3 q4 q5 q6 q7 q8 q9 q10 q11 sd))]) H4 := hP4
  have hD6 : va_D A ([(h0, .inr (7, cM (upd Z 0 0) q1 q2 q3 q4 q5 q6 q7 q8 q9 q10 q11 sd))]) := hD4
  refine lv_if_eq (x := 1) (tgt := 14) hx hb dX7_known_9 (by decide) (fun (c2 : 1 = 0) => absurd c2 (by decide)) (fun (c2 : ¬ (1 = 0)) => ?_)
  refine lv_iconst (v := (-1)) hx hb dX7_known_12 (by decide) ?_
  exact k_iret kx hK hP5 hD6 hS4 (u := ()) rfl rfl dX7_known_13

set_option maxHeartbeats 4000000 in
set_option maxRecDepth 100000 in
theorem c_X7_way_x (l : Launch) (G : kG) (Z : Nat → Int32) (sd : Int64) (h0 : Nat) (q1 : Nat) (q2 : Nat) (q3 : Nat) (q4 : Nat) (q5 : Nat) (q6 : Nat) (q7 : Nat) (q8 : Nat) (q9 : Nat) (q10 : Nat) (q11 : Nat) (p0 : Int32) (p1 : Int32) (h9 : ¬ p0 = 0) (h8 : ¬ p0 = 1) : cG l G yX7_way cX7_way 3 (some .int) 2 [.ref h0, .int p0, .int p1] ([(h0, .inr (7, cM Z q1 q2 q3 q4 q5 q6 q7 q8 q9 q10 q11 sd))]) (qI G (fun (r : Int32) (_ : Unit) => r = (-1)) (fun _ => [(h0, .inr (7, cM (upd Z 0 0) q1 q2 q3 q4 q5 q6 q7 q8 q9 q10 q11 sd))])) := by
  refine kintro (by decide) (Nat.le_of_ble_eq_true rfl) ?_
  intro p e s m args below meth c A ls kx hK hP hD hS hA hl
  have kx : kX p s m args meth c cX7_way 3 (some .int) RX7 := kx
  have hx := kx.1
  have hb := kx.2.1
  have hown := kx.2.2.2.2.1
  have ht := kx.2.2.2.2.2.2
  have hl : lv_has ls 3 [(0, .ref h0), (1, .int p0), (2, .int p1)] := hl
  refine lv_aload_n hx hb dX7_way_0 rfl (lv_at hl 0 rfl) ?_
  refine lv_iconst (v := 0) hx hb dX7_way_1 (by decide) ?_
  refine va_put (ci := 7) (v := .int 0) (ty := .int) (C := RX7) (T := TX7) (N := 22) hx hb ht inX7 tyX7 tyX7_ok nmX7 hown hK.1 hP hD hS 0 rfl rfl 0 (by decide) (ht _ q_666) (fun _ h9 => h9) rfl (by decide +kernel) rfl rfl (Nat.le_of_ble_eq_true rfl) dX7_way_2 (fun H1 locs1 hP1 hD1 hS1 => ?_)
  have hP2 : va_P G.1 vwCl ([(h0, .inr (7, cM (upd Z 0 0) q1 q2 q3 q4 q5 q6 q7 q8 q9 q10 q11 sd))]) H1 := hP1
  have hD3 : va_D A ([(h0, .inr (7, cM (upd Z 0 0) q1 q2 q3 q4 q5 q6 q7 q8 q9 q10 q11 sd))]) := hD1
  refine lv_iload_n hx hb dX7_way_5 rfl (lv_at hl 1 rfl) ?_
  refine k_calli (kRunS (As := [.int p0]) (rest := []) kx (c_X7_noEnd_x l G p0 h9 h8) q_824 q_822 q_36 q_823 nX7_noEnd ⟨Nat.le_of_ble_eq_true rfl, Nat.le_of_ble_eq_true rfl⟩ hK hP2 hD3 (kCtx_nil _) rfl hl.1 (Nat.le_of_ble_eq_true rfl) dX7_way_6 ⟨Nat.zero_le _, Nat.zero_le _⟩) hP2 hD3 hS1 hA (kCtx_nil _) (fun _ => rfl) (fun r1 _ H4 locs4 hw hP4 hD4 hS4 => ?_)
  have hr1 : 1 = r1 := (show r1 = 1 from hw).symm
  subst hr1
  have hP5 : va_P G.1 vwCl ([(h0, .inr (7, cM (upd Z 0 0) q1 q2 q3 q4 q5 q6 q7 q8 q9 q10 q11 sd))]) H4 := hP4
  have hD6 : va_D A ([(h0, .inr (7, cM (upd Z 0 0) q1 q2 q3 q4 q5 q6 q7 q8 q9 q10 q11 sd))]) := hD4
  refine lv_if_eq (x := 1) (tgt := 14) hx hb dX7_way_9 (by decide) (fun (c2 : 1 = 0) => absurd c2 (by decide)) (fun (c2 : ¬ (1 = 0)) => ?_)
  refine lv_iconst (v := (-1)) hx hb dX7_way_12 (by decide) ?_
  exact k_iret kx hK hP5 hD6 hS4 (u := ()) rfl rfl dX7_way_13
