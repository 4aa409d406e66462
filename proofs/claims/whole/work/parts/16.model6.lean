def l_X7_divisor_1_r : Nat → Nat → Nat → Nat → Int32
  | 0, j1, a_1, b_1 => nI a_1
  | n1 + 1, j1, a_1, b_1 => if nI b_1 = 0 then (nI a_1) else l_X7_divisor_1_r n1 (j1 + 1) b_1 (a_1 % b_1)
def l_X7_divisor_2_r : Nat → Nat → Nat → Nat → Int32
  | 0, j2, a_2, b_2 => nI a_2
  | n2 + 1, j2, a_2, b_2 => if nI b_2 = 0 then (nI a_2) else l_X7_divisor_2_r n2 (j2 + 1) b_2 (a_2 % b_2)
def r_X7_divisor (p0 : Int32) (a : Nat) (b : Nat) : Int32 := if 0 ≤ p0 then (l_X7_divisor_1_r (b + 1) 0 a b) else l_X7_divisor_2_r (b + 1) 0 a b
set_option maxHeartbeats 4000000 in
set_option maxRecDepth 100000 in
theorem c_X7_divisor (l : Launch) (G : kG) (p0 : Int32) (a : Nat) (b : Nat) (h1 : 0 ≤ p0 → p0 = nI a) (h2 : ¬ 0 ≤ p0 → -p0 = nI a) (ha9 : a < 2 ^ 31) (hb9 : b < 2 ^ 31) : cG l G yX7_divisor cX7_divisor 5 (some .int) 0 [.int p0, .int (nI b)] ([]) (qI G (fun (r : Int32) (_ : Unit) => r = r_X7_divisor p0 a b) (fun _ => [])) := by
  refine kintro (by decide) (Nat.le_of_ble_eq_true rfl) ?_
  intro p e s m args below meth c A ls kx hK hP hD hS hA hl
  have kx : kX p s m args meth c cX7_divisor 5 (some .int) RX7 := kx
  have hx := kx.1
  have hb := kx.2.1
  have hown := kx.2.2.2.2.1
  have ht := kx.2.2.2.2.2.2
  have hl : lv_has ls 5 [(0, .int p0), (1, .int (nI b))] := hl
  refine lv_iload_n hx hb dX7_divisor_0 rfl (lv_at hl 0 rfl) ?_
  refine lv_if_ge (x := p0) (tgt := 9) hx hb dX7_divisor_1 (by decide) (fun (c1 : 0 ≤ p0) => ?_) (fun (c1 : ¬ (0 ≤ p0)) => ?_)
  · skip
    refine lv_iload_n hx hb dX7_divisor_9 rfl (lv_at hl 0 rfl) ?_
    refine k_top (y := nI a) (h1 c1) ?_
    refine lv_istore_n (lv' := [(2, .int (nI a)), (0, .int p0), (1, .int (nI b))]) hx hb dX7_divisor_10 rfl hl (by decide) rfl (fun ls1 hl1 => ?_)
    refine lv_iload_n hx hb dX7_divisor_11 rfl (lv_at hl1 2 rfl) ?_
    refine lv_istore_n (lv' := [(3, .int (nI b)), (2, .int (nI a)), (0, .int p0), (1, .int (nI b))]) hx hb dX7_divisor_12 rfl hl1 (by decide) rfl (fun ls2 hl2 => ?_)
    have lp1 : ∀ (n1 j1 : Nat) (a_1 : Nat) (b_1 : Nat), j1 + n1 = (b + 1) → (hr_1 : r_X7_divisor p0 a b = l_X7_divisor_1_r n1 j1 a_1 b_1) → (hq1 : b_1 < n1) → (ha1 : a_1 < 2 ^ 31) → (hb1 : b_1 < 2 ^ 31) → ∀ (H : Heap) (locs : List Loc) (ls : Array Slot), va_P G.1 vwCl ([]) H → va_D A ([]) → va_S A s.heap H locs → lv_has ls 5 [(0, .int p0), (1, .int (nI b)), (2, .int (nI a_1)), (3, .int (nI b_1))] → W p l e (kr 0) s m args below meth c H locs 0 0 (MQ below (qI G (fun (r : Int32) (_ : Unit) => r = r_X7_divisor p0 a b) (fun _ => []) A) args s 0 0 A) (F0 m 13 ls []) := by
      intro n1
      induction n1 with
      | zero =>
        intro j1 a_1 b_1 hj1 hr_1 hq1 ha1 hb1 H3 locs3 ls3 hP3 hD3 hS3 hl3
        refine lv_iload_n hx hb dX7_divisor_13 rfl (lv_at hl3 3 rfl) ?_
        refine lv_if_eq (x := nI b_1) (tgt := 30) hx hb dX7_divisor_14 (by decide) (fun (c2 : nI b_1 = 0) => ?_) (fun (c2 : ¬ (nI b_1 = 0)) => absurd (absurd hq1 (by omega)) c2)
        refine lv_iload_n hx hb dX7_divisor_30 rfl (lv_at hl3 2 rfl) ?_
        have er : r_X7_divisor p0 a b = nI a_1 := by rw [hr_1, l_X7_divisor_1_r]
        exact k_iret kx hK hP3 hD3 hS3 (u := ()) rfl er.symm dX7_divisor_31
      | succ n1 ih1 =>
        intro j1 a_1 b_1 hj1 hr_1 hq1 ha1 hb1 H3 locs3 ls3 hP3 hD3 hS3 hl3
        refine lv_iload_n hx hb dX7_divisor_13 rfl (lv_at hl3 3 rfl) ?_
        refine lv_if_eq (x := nI b_1) (tgt := 30) hx hb dX7_divisor_14 (by decide) (fun (c3 : nI b_1 = 0) => ?_) (fun (c3 : ¬ (nI b_1 = 0)) => ?_)
        · skip
          refine lv_iload_n hx hb dX7_divisor_30 rfl (lv_at hl3 2 rfl) ?_
          have er : r_X7_divisor p0 a b = nI a_1 := by rw [hr_1, l_X7_divisor_1_r, if_pos c3]
          exact k_iret kx hK hP3 hD3 hS3 (u := ()) rfl er.symm dX7_divisor_31
        · skip
          have nec3 : b_1 ≠ 0 := fun q => c3 (by rw [q]; rfl)
          refine lv_iload_n hx hb dX7_divisor_17 rfl (lv_at hl3 2 rfl) ?_
          refine lv_iload_n hx hb dX7_divisor_18 rfl (lv_at hl3 3 rfl) ?_
          refine lv_irem hx hb dX7_divisor_19 c3 ?_
          refine k_top (y := nI (a_1 % b_1)) (pk_rem (by omega) (Nat.pos_of_ne_zero nec3) (by omega)) ?_
          refine lv_istore (lv' := [(4, .int (nI (a_1 % b_1))), (0, .int p0), (1, .int (nI b)), (2, .int (nI a_1)), (3, .int (nI b_1))]) hx hb dX7_divisor_20 hl3 (by decide) rfl (fun ls4 hl4 => ?_)
          refine lv_iload_n hx hb dX7_divisor_22 rfl (lv_at hl4 4 rfl) ?_
          refine lv_istore_n (lv' := [(2, .int (nI b_1)), (4, .int (nI (a_1 % b_1))), (0, .int p0), (1, .int (nI b)), (3, .int (nI b_1))]) hx hb dX7_divisor_23 rfl hl4 (by decide) rfl (fun ls5 hl5 => ?_)
          refine lv_iload hx hb dX7_divisor_24 (lv_at hl5 1 rfl) ?_
          refine lv_istore_n (lv' := [(3, .int (nI (a_1 % b_1))), (2, .int (nI b_1)), (4, .int (nI (a_1 % b_1))), (0, .int p0), (1, .int (nI b))]) hx hb dX7_divisor_26 rfl hl5 (by decide) rfl (fun ls6 hl6 => ?_)
          refine lv_goto (tgt := 13) hx hb dX7_divisor_27 (by decide) ?_
          have gr : r_X7_divisor p0 a b = l_X7_divisor_1_r n1 (j1 + 1) b_1 (a_1 % b_1) := by rw [hr_1, l_X7_divisor_1_r, if_neg c3]
          exact ih1 (j1 + 1) b_1 (a_1 % b_1) (by omega) gr (by have := Nat.mod_lt a_1 (Nat.pos_of_ne_zero nec3); omega) (by omega) (by have := Nat.mod_lt a_1 (Nat.pos_of_ne_zero nec3); omega) _ _ _ hP3 hD3 hS3 (lv_sub hl6 [3, 4, 1, 0] rfl)
    have gr : r_X7_divisor p0 a b = l_X7_divisor_1_r (b + 1) 0 a b := by rw [r_X7_divisor, if_pos c1]
    exact lp1 (b + 1) 0 a b (by omega) gr (by omega) (by omega) (by omega) _ _ _ hP hD hS (lv_sub hl2 [2, 3, 1, 0] rfl)
  · skip
    refine lv_iload_n hx hb dX7_divisor_4 rfl (lv_at hl 0 rfl) ?_
    refine lv_ineg hx hb dX7_divisor_5 ?_
    refine lv_goto (tgt := 10) hx hb dX7_divisor_6 (by decide) ?_
    refine k_top (y := nI a) (h2 c1) ?_
    refine lv_istore_n (lv' := [(2, .int (nI a)), (0, .int p0), (1, .int (nI b))]) hx hb dX7_divisor_10 rfl hl (by decide) rfl (fun ls7 hl7 => ?_)
    refine lv_iload_n hx hb dX7_divisor_11 rfl (lv_at hl7 2 rfl) ?_
    refine lv_istore_n (lv' := [(3, .int (nI b)), (2, .int (nI a)), (0, .int p0), (1, .int (nI b))]) hx hb dX7_divisor_12 rfl hl7 (by decide) rfl (fun ls8 hl8 => ?_)
    have lp2 : ∀ (n2 j2 : Nat) (a_2 : Nat) (b_2 : Nat), j2 + n2 = (b + 1) → (hr_2 : r_X7_divisor p0 a b = l_X7_divisor_2_r n2 j2 a_2 b_2) → (hq2 : b_2 < n2) → (ha2 : a_2 < 2 ^ 31) → (hb2 : b_2 < 2 ^ 31) → ∀ (H : Heap) (locs : List Loc) (ls : Array Slot), va_P G.1 vwCl ([]) H → va_D A ([]) → va_S A s.heap H locs → lv_has ls 5 [(0, .int p0), (1, .int (nI b)), (2, .int (nI a_2)), (3, .int (nI b_2))] → W p l e (kr 0) s m args below meth c H locs 0 0 (MQ below (qI G (fun (r : Int32) (_ : Unit) => r = r_X7_divisor p0 a b) (fun _ => []) A) args s 0 0 A) (F0 m 13 ls []) := by
      intro n2
      induction n2 with
      | zero =>
        intro j2 a_2 b_2 hj2 hr_2 hq2 ha2 hb2 H9 locs9 ls9 hP9 hD9 hS9 hl9
        refine lv_iload_n hx hb dX7_divisor_13 rfl (lv_at hl9 3 rfl) ?_
        refine lv_if_eq (x := nI b_2) (tgt := 30) hx hb dX7_divisor_14 (by decide) (fun (c4 : nI b_2 = 0) => ?_) (fun (c4 : ¬ (nI b_2 = 0)) => absurd (absurd hq2 (by omega)) c4)
        refine lv_iload_n hx hb dX7_divisor_30 rfl (lv_at hl9 2 rfl) ?_
        have er : r_X7_divisor p0 a b = nI a_2 := by rw [hr_2, l_X7_divisor_2_r]
        exact k_iret kx hK hP9 hD9 hS9 (u := ()) rfl er.symm dX7_divisor_31
      | succ n2 ih2 =>
        intro j2 a_2 b_2 hj2 hr_2 hq2 ha2 hb2 H9 locs9 ls9 hP9 hD9 hS9 hl9
        refine lv_iload_n hx hb dX7_divisor_13 rfl (lv_at hl9 3 rfl) ?_
        refine lv_if_eq (x := nI b_2) (tgt := 30) hx hb dX7_divisor_14 (by decide) (fun (c5 : nI b_2 = 0) => ?_) (fun (c5 : ¬ (nI b_2 = 0)) => ?_)
        · skip
          refine lv_iload_n hx hb dX7_divisor_30 rfl (lv_at hl9 2 rfl) ?_
          have er : r_X7_divisor p0 a b = nI a_2 := by rw [hr_2, l_X7_divisor_2_r, if_pos c5]
          exact k_iret kx hK hP9 hD9 hS9 (u := ()) rfl er.symm dX7_divisor_31
        · skip
          have nec5 : b_2 ≠ 0 := fun q => c5 (by rw [q]; rfl)
          refine lv_iload_n hx hb dX7_divisor_17 rfl (lv_at hl9 2 rfl) ?_
          refine lv_iload_n hx hb dX7_divisor_18 rfl (lv_at hl9 3 rfl) ?_
          refine lv_irem hx hb dX7_divisor_19 c5 ?_
          refine k_top (y := nI (a_2 % b_2)) (pk_rem (by omega) (Nat.pos_of_ne_zero nec5) (by omega)) ?_
          refine lv_istore (lv' := [(4, .int (nI (a_2 % b_2))), (0, .int p0), (1, .int (nI b)), (2, .int (nI a_2)), (3, .int (nI b_2))]) hx hb dX7_divisor_20 hl9 (by decide) rfl (fun ls10 hl10 => ?_)
          refine lv_iload_n hx hb dX7_divisor_22 rfl (lv_at hl10 4 rfl) ?_
          refine lv_istore_n (lv' := [(2, .int (nI b_2)), (4, .int (nI (a_2 % b_2))), (0, .int p0), (1, .int (nI b)), (3, .int (nI b_2))]) hx hb dX7_divisor_23 rfl hl10 (by decide) rfl (fun ls11 hl11 => ?_)
          refine lv_iload hx hb dX7_divisor_24 (lv_at hl11 1 rfl) ?_
          refine lv_istore_n (lv' := [(3, .int (nI (a_2 % b_2))), (2, .int (nI b_2)), (4, .int (nI (a_2 % b_2))), (0, .int p0), (1, .int (nI b))]) hx hb dX7_divisor_26 rfl hl11 (by decide) rfl (fun ls12 hl12 => ?_)
          refine lv_goto (tgt := 13) hx hb dX7_divisor_27 (by decide) ?_
          have gr : r_X7_divisor p0 a b = l_X7_divisor_2_r n2 (j2 + 1) b_2 (a_2 % b_2) := by rw [hr_2, l_X7_divisor_2_r, if_neg c5]
          exact ih2 (j2 + 1) b_2 (a_2 % b_2) (by omega) gr (by have := Nat.mod_lt a_2 (Nat.pos_of_ne_zero nec5); omega) (by omega) (by have := Nat.mod_lt a_2 (Nat.pos_of_ne_zero nec5); omega) _ _ _ hP9 hD9 hS9 (lv_sub hl12 [3, 4, 1, 0] rfl)
    have gr : r_X7_divisor p0 a b = l_X7_divisor_2_r (b + 1) 0 a b := by rw [r_X7_divisor, if_neg c1]
    exact lp2 (b + 1) 0 a b (by omega) gr (by omega) (by omega) (by omega) _ _ _ hP hD hS (lv_sub hl8 [2, 3, 1, 0] rfl)

theorem kdiv_gcd : ∀ (n j a b : Nat), b < n → a < 2 ^ 31 → b < 2 ^ 31 → l_X7_divisor_1_r n j a b = nI (Nat.gcd a b)
  | 0, _, _, _, h, _, _ => by omega
  | n + 1, j, a, b, h, ha, hb => by
    rw [l_X7_divisor_1_r]
    by_cases hz : b = 0
    · subst hz
      rw [if_pos nI_0, Nat.gcd_zero_right]
    · have hn : ¬ nI b = 0 := fun q => hz ((nI_eq hb (by decide)).mp q)
      rw [if_neg hn, kdiv_gcd n (j + 1) b (a % b) (by have := Nat.mod_lt a (Nat.pos_of_ne_zero hz); omega) hb (by have := Nat.mod_lt a (Nat.pos_of_ne_zero hz); omega), Nat.gcd_comm b (a % b), ← Nat.gcd_rec b a, Nat.gcd_comm]

theorem kdiv_gcd2 : ∀ (n j a b : Nat), b < n → a < 2 ^ 31 → b < 2 ^ 31 → l_X7_divisor_2_r n j a b = nI (Nat.gcd a b)
  | 0, _, _, _, h, _, _ => by omega
  | n + 1, j, a, b, h, ha, hb => by
    rw [l_X7_divisor_2_r]
    by_cases hz : b = 0
    · subst hz
      rw [if_pos nI_0, Nat.gcd_zero_right]
    · have hn : ¬ nI b = 0 := fun q => hz ((nI_eq hb (by decide)).mp q)
      rw [if_neg hn, kdiv_gcd2 n (j + 1) b (a % b) (by have := Nat.mod_lt a (Nat.pos_of_ne_zero hz); omega) hb (by have := Nat.mod_lt a (Nat.pos_of_ne_zero hz); omega), Nat.gcd_comm b (a % b), ← Nat.gcd_rec b a, Nat.gcd_comm]

theorem kdivisor {p0 : Int32} {a b : Nat} (ha : a < 2 ^ 31) (hb : b < 2 ^ 31) : r_X7_divisor p0 a b = nI (Nat.gcd a b) := by
  unfold r_X7_divisor
  split
  · first | exact kdiv_gcd _ _ _ _ (by omega) ha hb | exact kdiv_gcd2 _ _ _ _ (by omega) ha hb
  · first | exact kdiv_gcd _ _ _ _ (by omega) ha hb | exact kdiv_gcd2 _ _ _ _ (by omega) ha hb
theorem kdivisor_ne {p0 : Int32} {a b : Nat} {r : Int32} (hr : r_X7_divisor p0 a b = r) (ha : a < 2 ^ 31) (hb : b < 2 ^ 31) (h0 : 0 < b) : ¬ r = 0 := by
  rw [← hr, kdivisor ha hb]
  intro q
  have h1 : Nat.gcd a b ≤ b := Nat.gcd_le_right a h0
  have h2 : 0 < Nat.gcd a b := Nat.gcd_pos_of_pos_right a h0
  have := (nI_eq (by omega) (by decide)).mp (show nI (Nat.gcd a b) = nI 0 from q)
  omega

def r_X7_fraction (p0 : Int32) (a : Nat) (b : Nat) (p2 : Int32) : Int32 := if p2 = 0 then ((nI b) / (r_X7_divisor p0 a b)) else p0 / (r_X7_divisor p0 a b)
set_option maxHeartbeats 4000000 in
set_option maxRecDepth 100000 in
theorem c_X7_fraction (l : Launch) (G : kG) (p0 : Int32) (a : Nat) (b : Nat) (p2 : Int32) (h1 : 0 ≤ p0 → p0 = nI a) (h2 : ¬ 0 ≤ p0 → -p0 = nI a) (ha9 : a < 2 ^ 31) (hb9 : b < 2 ^ 31) (hb0 : 0 < b) : cG l G yX7_fraction cX7_fraction 4 (some .int) 1 [.int p0, .int (nI b), .int p2] ([]) (qI G (fun (r : Int32) (_ : Unit) => r = r_X7_fraction p0 a b p2) (fun _ => [])) := by
  refine kintro (by decide) (Nat.le_of_ble_eq_true rfl) ?_
  intro p e s m args below meth c A ls kx hK hP hD hS hA hl
  have kx : kX p s m args meth c cX7_fraction 4 (some .int) RX7 := kx
  have hx := kx.1
  have hb := kx.2.1
  have hown := kx.2.2.2.2.1
  have ht := kx.2.2.2.2.2.2
  have hl : lv_has ls 4 [(0, .int p0), (1, .int (nI b)), (2, .int p2)] := hl
  refine lv_iload_n hx hb dX7_fraction_0 rfl (lv_at hl 0 rfl) ?_
  refine lv_iload_n hx hb dX7_fraction_1 rfl (lv_at hl 1 rfl) ?_
  refine k_calli (kRunS (As := [.int p0, .int (nI b)]) (rest := []) kx (c_X7_divisor l G p0 a b h1 h2 ha9 hb9) q_950 q_948 q_36 q_949 nX7_divisor ⟨Nat.le_of_ble_eq_true rfl, Nat.le_of_ble_eq_true rfl⟩ hK hP hD (kCtx_nil _) rfl hl.1 (Nat.le_of_ble_eq_true rfl) dX7_fraction_2 ⟨Nat.zero_le _, Nat.zero_le _⟩) hP hD hS hA (kCtx_nil _) (fun _ => rfl) (fun r1 _ H1 locs1 hw hP1 hD1 hS1 => ?_)
  have hr1 : r_X7_divisor p0 a b = r1 := (show r1 = r_X7_divisor p0 a b from hw).symm
  have hP2 : va_P G.1 vwCl ([]) H1 := hP1
  have hD3 : va_D A ([]) := hD1
  refine lv_istore_n (lv' := [(3, .int r1), (0, .int p0), (1, .int (nI b)), (2, .int p2)]) hx hb dX7_fraction_5 rfl hl (by decide) rfl (fun ls4 hl4 => ?_)
  refine lv_iload_n hx hb dX7_fraction_6 rfl (lv_at hl4 3 rfl) ?_
  refine lv_if_eq (x := p2) (tgt := 16) hx hb dX7_fraction_7 (by decide) (fun (c2 : p2 = 0) => ?_) (fun (c2 : ¬ (p2 = 0)) => ?_)
  · skip
    refine lv_iload_n hx hb dX7_fraction_16 rfl (lv_at hl4 2 rfl) ?_
    refine lv_iload_n hx hb dX7_fraction_17 rfl (lv_at hl4 0 rfl) ?_
    refine lv_idiv hx hb dX7_fraction_18 (kdivisor_ne hr1 ha9 hb9 hb0) ?_
    have er : r_X7_fraction p0 a b p2 = (nI b) / r1 := by rw [r_X7_fraction]; (try rw [hr1]); rw [if_pos c2]
    exact k_iret kx hK hP2 hD3 hS1 (u := ()) rfl er.symm dX7_fraction_19
  · skip
    refine lv_iload_n hx hb dX7_fraction_10 rfl (lv_at hl4 1 rfl) ?_
    refine lv_iload_n hx hb dX7_fraction_11 rfl (lv_at hl4 0 rfl) ?_
    refine lv_idiv hx hb dX7_fraction_12 (kdivisor_ne hr1 ha9 hb9 hb0) ?_
    refine lv_goto (tgt := 19) hx hb dX7_fraction_13 (by decide) ?_
    have er : r_X7_fraction p0 a b p2 = p0 / r1 := by rw [r_X7_fraction]; (try rw [hr1]); rw [if_neg c2]
    exact k_iret kx hK hP2 hD3 hS1 (u := ()) rfl er.symm dX7_fraction_19
