theorem kones16 : ∀ j : Fin 16, (r_X7_ones (nI j.val)).toNatClampNeg ≤ 100 ∧ (3 - r_X7_ones (nI j.val)).toNatClampNeg ≤ 100 ∧ kBd 24 (r_X7_factorial (r_X7_ones (nI j.val)) * r_X7_factorial (3 - r_X7_ones (nI j.val))) := by
  unfold kBd
  decide +kernel
theorem kshare {j : Nat} {up : Int32} (Z1 Z2 pg tr1 tr2 : Nat → Int32) (p1 p2 : Int32) (hj : j < 16) (h : kBd (2880 * j) up) : kBd (2880 * (j + 1)) (up + (r_X7_factorial (r_X7_ones (nI j)) * r_X7_factorial (3 - r_X7_ones (nI j))) * (r_X7_sentBy Z1 pg tr1 p1 - r_X7_sentBy Z2 pg tr2 p2)) := by
  obtain ⟨c1, h1, e1⟩ := ssentBy Z1 pg tr1 p1
  obtain ⟨c2, h2, e2⟩ := ssentBy Z2 pg tr2 p2
  have hm := kBd_mul (kones16 ⟨j, hj⟩).2.2 (kBd_diff (x := pg 53) h1 h2 (by decide)) (by decide)
  rw [← e1, ← e2] at hm
  have := kBd_add h hm (by omega)
  exact kBd_le this (by omega)
theorem kBd_min {n : Nat} {x : Int32} (h : kBd n x) (hn : n < 2 ^ 31) : -(2 ^ 31 : Int) < x.toInt := by unfold kBd at h; omega
theorem kBd_abs {n : Nat} {x : Int32} (h : kBd n x) (hn : n < 2 ^ 31) : x.toInt.natAbs < 2 ^ 31 := by unfold kBd at h; omega
/-! powers -/
theorem lpow (a : Nat) : ∀ (n j v : Nat), l_X7_power_1_r (nI a) n j (nI v) = nI (v * a ^ n)
  | 0, _, v => by rw [l_X7_power_1_r, Nat.pow_zero, Nat.mul_one]
  | n + 1, j, v => by rw [l_X7_power_1_r, pk_mul, lpow a n (j + 1) (v * a), Nat.pow_succ, Nat.mul_assoc, Nat.mul_comm a]
theorem rpow (a : Nat) {n : Nat} (hn : n < 2 ^ 31) : r_X7_power (nI a) (nI n) = nI (a ^ n) := by
  unfold r_X7_power
  rw [nI_clamp hn]
  have := lpow a n 0 1
  rw [Nat.one_mul] at this
  exact this
theorem kones64 : ∀ j : Fin 64, ∃ c : Fin 7, r_X7_ones (nI j.val) = nI c.val := by decide +kernel
theorem kones_le : ∀ r : Fin 7, ∀ j : Fin 64, j.val < 2 ^ r.val → ∃ c : Fin 7, c.val ≤ r.val ∧ r_X7_ones (nI j.val) = nI c.val := by decide +kernel
theorem kshl1 : ∀ r : Fin 7, kShl 1 (nI r.val) = nI (2 ^ r.val) := by decide +kernel
theorem kweight {r x j : Nat} (hr : r ≤ 6) (hx : x ≤ 10) (hj : j < 2 ^ r) : ∃ v : Nat, v ≤ 1000000 ∧ r_X7_power (nI x) (r_X7_ones (nI j)) * r_X7_power (10 - nI x) (nI r - r_X7_ones (nI j)) = nI v := by
  have hj64 : j < 64 := Nat.lt_of_lt_of_le hj (show 2 ^ r ≤ 2 ^ 6 from Nat.pow_le_pow_right (by decide) hr)
  obtain ⟨c, hc, e⟩ := kones_le ⟨r, by omega⟩ ⟨j, hj64⟩ hj
  have hc : c.val ≤ r := hc
  have e : r_X7_ones (nI j) = nI c.val := e
  rw [e, show (10 : Int32) - nI x = nI (10 - x) from pk_sub hx, pk_sub hc, rpow _ (by omega), rpow _ (by omega), pk_mul]
  refine ⟨_, ?_, rfl⟩
  have h1 : x ^ c.val ≤ 10 ^ c.val := Nat.pow_le_pow_left hx _
  have h2 : (10 - x) ^ (r - c.val) ≤ 10 ^ (r - c.val) := Nat.pow_le_pow_left (by omega) _
  have h3 : x ^ c.val * (10 - x) ^ (r - c.val) ≤ 10 ^ c.val * 10 ^ (r - c.val) := Nat.mul_le_mul h1 h2
  rw [← Nat.pow_add, show c.val + (r - c.val) = r by omega] at h3
  exact Nat.le_trans h3 (show 10 ^ r ≤ 10 ^ 6 from Nat.pow_le_pow_right (by decide) hr)
theorem kluck {r x j : Nat} {up : Int32} (hr : r ≤ 6) (hx : x ≤ 10) (hj : j < 2 ^ r) (h : kBd (1000000 * j) up) : kBd (1000000 * (j + 1)) (up + r_X7_power (nI x) (r_X7_ones (nI j)) * r_X7_power (10 - nI x) (nI r - r_X7_ones (nI j))) := by
  have hj64 : j < 64 := Nat.lt_of_lt_of_le hj (show 2 ^ r ≤ 2 ^ 6 from Nat.pow_le_pow_right (by decide) hr)
  obtain ⟨v, hv, e⟩ := kweight hr hx hj
  rw [e]
  have := kBd_add h (kBd_nI (n := v) (by omega)) (by omega)
  exact kBd_le this (by omega)
theorem kluck0 {j : Nat} {up : Int32} (h : kBd (1000000 * j) up) : kBd (1000000 * (j + 1)) (up + 0) := by
  rw [Int32.add_zero]; exact kBd_le h (by omega)
theorem kpow10 {r : Nat} (hr : r ≤ 6) : 10 ^ r < 2 ^ 31 ∧ 0 < 10 ^ r := ⟨Nat.lt_of_le_of_lt (show 10 ^ r ≤ 10 ^ 6 from Nat.pow_le_pow_right (by decide) hr) (by decide), Nat.pow_pos (by decide)⟩

def l_X7_share_1_r (pg : Nat → Int32) (p0 : Int32) (p1 : Int32) : Nat → Nat → Int32 → (Nat → Int32) → (Nat → Int32) → Int32
  | 0, j1, up_1, Z_1, tr_1 => r_X7_fraction up_1 up_1.toInt.natAbs 24 p1
  | n1 + 1, j1, up_1, Z_1, tr_1 => if (r_X7_has (nI j1) p0) = 0 then (l_X7_share_1_r pg p0 p1 n1 (j1 + 1) (up_1 + (((r_X7_factorial (r_X7_ones (nI j1))) * (r_X7_factorial (3 - (r_X7_ones (nI j1))))) * ((r_X7_sentBy Z_1 pg tr_1 (nI j1)) - (r_X7_sentBy (s_X7_sentBy_Z Z_1 pg tr_1 (nI j1)) pg (s_X7_sentBy_tr Z_1 pg tr_1 (nI j1)) ((nI j1) ||| (kShl 1 p0)))))) (s_X7_sentBy_Z (s_X7_sentBy_Z Z_1 pg tr_1 (nI j1)) pg (s_X7_sentBy_tr Z_1 pg tr_1 (nI j1)) ((nI j1) ||| (kShl 1 p0))) (s_X7_sentBy_tr (s_X7_sentBy_Z Z_1 pg tr_1 (nI j1)) pg (s_X7_sentBy_tr Z_1 pg tr_1 (nI j1)) ((nI j1) ||| (kShl 1 p0)))) else l_X7_share_1_r pg p0 p1 n1 (j1 + 1) up_1 Z_1 tr_1
def r_X7_share (Z : Nat → Int32) (pg : Nat → Int32) (tr : Nat → Int32) (p0 : Int32) (p1 : Int32) : Int32 := if (r_X7_in p0.toInt64 0 3) = 0 then (-1) else l_X7_share_1_r pg p0 p1 16 0 0 (upd Z 0 0) tr
def l_X7_share_1_Z (pg : Nat → Int32) (p0 : Int32) : Nat → Nat → Int32 → (Nat → Int32) → (Nat → Int32) → Nat → Int32
  | 0, j1, up_1, Z_1, tr_1 => Z_1
  | n1 + 1, j1, up_1, Z_1, tr_1 => if (r_X7_has (nI j1) p0) = 0 then (l_X7_share_1_Z pg p0 n1 (j1 + 1) (up_1 + (((r_X7_factorial (r_X7_ones (nI j1))) * (r_X7_factorial (3 - (r_X7_ones (nI j1))))) * ((r_X7_sentBy Z_1 pg tr_1 (nI j1)) - (r_X7_sentBy (s_X7_sentBy_Z Z_1 pg tr_1 (nI j1)) pg (s_X7_sentBy_tr Z_1 pg tr_1 (nI j1)) ((nI j1) ||| (kShl 1 p0)))))) (s_X7_sentBy_Z (s_X7_sentBy_Z Z_1 pg tr_1 (nI j1)) pg (s_X7_sentBy_tr Z_1 pg tr_1 (nI j1)) ((nI j1) ||| (kShl 1 p0))) (s_X7_sentBy_tr (s_X7_sentBy_Z Z_1 pg tr_1 (nI j1)) pg (s_X7_sentBy_tr Z_1 pg tr_1 (nI j1)) ((nI j1) ||| (kShl 1 p0)))) else l_X7_share_1_Z pg p0 n1 (j1 + 1) up_1 Z_1 tr_1
def s_X7_share_Z (Z : Nat → Int32) (pg : Nat → Int32) (tr : Nat → Int32) (p0 : Int32) : Nat → Int32 := if (r_X7_in p0.toInt64 0 3) = 0 then (upd Z 0 0) else l_X7_share_1_Z pg p0 16 0 0 (upd Z 0 0) tr
def l_X7_share_1_tr (pg : Nat → Int32) (p0 : Int32) : Nat → Nat → Int32 → (Nat → Int32) → (Nat → Int32) → Nat → Int32
  | 0, j1, up_1, Z_1, tr_1 => tr_1
  | n1 + 1, j1, up_1, Z_1, tr_1 => if (r_X7_has (nI j1) p0) = 0 then (l_X7_share_1_tr pg p0 n1 (j1 + 1) (up_1 + (((r_X7_factorial (r_X7_ones (nI j1))) * (r_X7_factorial (3 - (r_X7_ones (nI j1))))) * ((r_X7_sentBy Z_1 pg tr_1 (nI j1)) - (r_X7_sentBy (s_X7_sentBy_Z Z_1 pg tr_1 (nI j1)) pg (s_X7_sentBy_tr Z_1 pg tr_1 (nI j1)) ((nI j1) ||| (kShl 1 p0)))))) (s_X7_sentBy_Z (s_X7_sentBy_Z Z_1 pg tr_1 (nI j1)) pg (s_X7_sentBy_tr Z_1 pg tr_1 (nI j1)) ((nI j1) ||| (kShl 1 p0))) (s_X7_sentBy_tr (s_X7_sentBy_Z Z_1 pg tr_1 (nI j1)) pg (s_X7_sentBy_tr Z_1 pg tr_1 (nI j1)) ((nI j1) ||| (kShl 1 p0)))) else l_X7_share_1_tr pg p0 n1 (j1 + 1) up_1 Z_1 tr_1
def s_X7_share_tr (Z : Nat → Int32) (pg : Nat → Int32) (tr : Nat → Int32) (p0 : Int32) : Nat → Int32 := if (r_X7_in p0.toInt64 0 3) = 0 then tr else l_X7_share_1_tr pg p0 16 0 0 (upd Z 0 0) tr
set_option maxHeartbeats 4000000 in
set_option maxRecDepth 100000 in
theorem c_X7_share (l : Launch) (G : kG) (Z : Nat → Int32) (sd : Int64) (h0 : Nat) (q1 : Nat) (q2 : Nat) (q3 : Nat) (q4 : Nat) (q5 : Nat) (q6 : Nat) (q7 : Nat) (q8 : Nat) (q9 : Nat) (q10 : Nat) (q11 : Nat) (pg : Nat → Int32) (tr : Nat → Int32) (p0 : Int32) (p1 : Int32) : cG l G yX7_share cX7_share 6 (some .int) 7 [.ref h0, .int p0, .int p1] ([(h0, .inr (7, cM Z q1 q2 q3 q4 q5 q6 q7 q8 q9 q10 q11 sd)), (q4, .inl (G.2.1, 55, .inl pg)), (q5, .inl (G.2.1, 55, .inl tr))]) (qI G (fun (r : Int32) (u : ((Nat → Int32) × (Nat → Int32))) => r = r_X7_share Z pg tr p0 p1 ∧ u.1 = s_X7_share_Z Z pg tr p0 ∧ u.2 = s_X7_share_tr Z pg tr p0) (fun u => [(h0, .inr (7, cM u.1 q1 q2 q3 q4 q5 q6 q7 q8 q9 q10 q11 sd)), (q4, .inl (G.2.1, 55, .inl pg)), (q5, .inl (G.2.1, 55, .inl u.2))])) := by
  refine kintro (by decide) (Nat.le_of_ble_eq_true rfl) ?_
  intro p e s m args below meth c A ls kx hK hP hD hS hA hl
  have kx : kX p s m args meth c cX7_share 6 (some .int) RX7 := kx
  have hx := kx.1
  have hb := kx.2.1
  have hown := kx.2.2.2.2.1
  have ht := kx.2.2.2.2.2.2
  have hl : lv_has ls 6 [(0, .ref h0), (1, .int p0), (2, .int p1)] := hl
  refine lv_aload_n hx hb dX7_share_0 rfl (lv_at hl 0 rfl) ?_
  refine lv_iconst (v := 0) hx hb dX7_share_1 (by decide) ?_
  refine va_put (ci := 7) (v := .int 0) (ty := .int) (C := RX7) (T := TX7) (N := 22) hx hb ht inX7 tyX7 tyX7_ok nmX7 hown hK.1 hP hD hS 0 rfl rfl 0 (by decide) (ht _ q_666) (fun _ h9 => h9) rfl (by decide +kernel) rfl rfl (Nat.le_of_ble_eq_true rfl) dX7_share_2 (fun H1 locs1 hP1 hD1 hS1 => ?_)
  have hP2 : va_P G.1 vwCl ([(h0, .inr (7, cM (upd Z 0 0) q1 q2 q3 q4 q5 q6 q7 q8 q9 q10 q11 sd)), (q4, .inl (G.2.1, 55, .inl pg)), (q5, .inl (G.2.1, 55, .inl tr))]) H1 := hP1
  have hD3 : va_D A ([(h0, .inr (7, cM (upd Z 0 0) q1 q2 q3 q4 q5 q6 q7 q8 q9 q10 q11 sd)), (q4, .inl (G.2.1, 55, .inl pg)), (q5, .inl (G.2.1, 55, .inl tr))]) := hD1
  refine lv_iload_n hx hb dX7_share_5 rfl (lv_at hl 1 rfl) ?_
  refine lv_i2l (v := p0.toInt64) hx hb dX7_share_6 rfl ?_
  refine lv_lconst (v := 0) hx hb dX7_share_7 (by decide) ?_
  refine lv_ldc2 (v := 3) hx hb hown (ht _ q_898) dX7_share_8 ?_
  refine k_calli (kRunS (As := [.long p0.toInt64, .long 0, .long 3]) (rest := []) kx (c_X7_in l G p0.toInt64 0 3) q_740 q_738 q_36 q_739 nX7_in ⟨Nat.le_of_ble_eq_true rfl, Nat.le_of_ble_eq_true rfl⟩ hK hP2 hD3 (kCtx_nil _) rfl hl.1 (Nat.le_of_ble_eq_true rfl) dX7_share_11 ⟨Nat.zero_le _, Nat.zero_le _⟩) hP2 hD3 hS1 hA (kCtx_nil _) (fun _ => rfl) (fun r1 _ H4 locs4 hw hP4 hD4 hS4 => ?_)
  have hr1 : r_X7_in p0.toInt64 0 3 = r1 := (show r1 = r_X7_in p0.toInt64 0 3 from hw).symm
  have hP5 : va_P G.1 vwCl ([(h0, .inr (7, cM (upd Z 0 0) q1 q2 q3 q4 q5 q6 q7 q8 q9 q10 q11 sd)), (q4, .inl (G.2.1, 55, .inl pg)), (q5, .inl (G.2.1, 55, .inl tr))]) H4 := hP4
  have hD6 : va_D A ([(h0, .inr (7, cM (upd Z 0 0) q1 q2 q3 q4 q5 q6 q7 q8 q9 q10 q11 sd)), (q4, .inl (G.2.1, 55, .inl pg)), (q5, .inl (G.2.1, 55, .inl tr))]) := hD4
  refine lv_if_ne (x := r1) (tgt := 19) hx hb dX7_share_14 (by decide) (fun (c2 : ¬ (r1 = 0)) => ?_) (fun (c2 : r1 = 0) => ?_)
  · skip
    obtain ⟨nnc2, nmc2⟩ := kin_of (x := p0) (a := 0) (N := 3) (by rw [hr1]; exact c2) (by decide) (by decide)
    refine lv_iconst (v := 0) hx hb dX7_share_19 (by decide) ?_
    refine lv_istore_n (lv' := [(3, .int 0), (0, .ref h0), (1, .int p0), (2, .int p1)]) hx hb dX7_share_20 rfl hl (by decide) rfl (fun ls7 hl7 => ?_)
    refine lv_iconst (v := 0) hx hb dX7_share_21 (by decide) ?_
    refine lv_istore (lv' := [(4, .int 0), (3, .int 0), (0, .ref h0), (1, .int p0), (2, .int p1)]) hx hb dX7_share_22 hl7 (by decide) rfl (fun ls8 hl8 => ?_)
    subst hr1
    have lp1 : ∀ (n1 j1 : Nat) (up_1 : Int32) (Z_1 : Nat → Int32) (tr_1 : Nat → Int32), j1 + n1 = 16 → (hr_1 : r_X7_share Z pg tr p0 p1 = l_X7_share_1_r pg p0 p1 n1 j1 up_1 Z_1 tr_1) → (hZ_1 : s_X7_share_Z Z pg tr p0 = l_X7_share_1_Z pg p0 n1 j1 up_1 Z_1 tr_1) → (htr_1 : s_X7_share_tr Z pg tr p0 = l_X7_share_1_tr pg p0 n1 j1 up_1 Z_1 tr_1) → (hu1 : kBd (2880 * j1) up_1) → ∀ (H : Heap) (locs : List Loc) (ls : Array Slot), va_P G.1 vwCl ([(h0, .inr (7, cM Z_1 q1 q2 q3 q4 q5 q6 q7 q8 q9 q10 q11 sd)), (q4, .inl (G.2.1, 55, .inl pg)), (q5, .inl (G.2.1, 55, .inl tr_1))]) H → va_D A ([(h0, .inr (7, cM Z_1 q1 q2 q3 q4 q5 q6 q7 q8 q9 q10 q11 sd)), (q4, .inl (G.2.1, 55, .inl pg)), (q5, .inl (G.2.1, 55, .inl tr_1))]) → va_S A s.heap H locs → lv_has ls 6 [(0, .ref h0), (1, .int p0), (2, .int p1), (3, .int up_1), (4, .int (nI j1))] → W p l e (kr 7) s m args below meth c H locs 0 0 (MQ below (qI G (fun (r : Int32) (u : ((Nat → Int32) × (Nat → Int32))) => r = r_X7_share Z pg tr p0 p1 ∧ u.1 = s_X7_share_Z Z pg tr p0 ∧ u.2 = s_X7_share_tr Z pg tr p0) (fun u => [(h0, .inr (7, cM u.1 q1 q2 q3 q4 q5 q6 q7 q8 q9 q10 q11 sd)), (q4, .inl (G.2.1, 55, .inl pg)), (q5, .inl (G.2.1, 55, .inl u.2))]) A) args s 0 0 A) (F0 m 24 ls []) := by
      intro n1
      induction n1 with
      | zero =>
        intro j1 up_1 Z_1 tr_1 hj1 hr_1 hZ_1 htr_1 hu1 H9 locs9 ls9 hP9 hD9 hS9 hl9
        refine lv_iload hx hb dX7_share_24 (lv_at hl9 4 rfl) ?_
        refine lv_bipush (v := 16) hx hb dX7_share_26 (by decide) ?_
        refine lv_icmp_ge (x := nI j1) (y := 16) (tgt := 87) hx hb dX7_share_28 (by decide) (fun (c3 : 16 ≤ nI j1) => ?_) (fun (c3 : ¬ (16 ≤ nI j1)) => absurd (kle_z rfl hj1) c3)
        refine lv_iload_n hx hb dX7_share_87 rfl (lv_at hl9 3 rfl) ?_
        refine lv_bipush (v := 24) hx hb dX7_share_88 (by decide) ?_
        refine lv_iload_n hx hb dX7_share_90 rfl (lv_at hl9 2 rfl) ?_
        refine k_calli (kRunS (As := [.int up_1, .int 24, .int p1]) (rest := []) kx (c_X7_fraction l G up_1 up_1.toInt.natAbs 24 p1 (fun h => kabs1 h) (fun h => kabs2 h (kBd_min hu1 (by omega))) (kBd_abs hu1 (by omega)) (by decide) (by decide)) q_947 q_945 q_36 q_946 nX7_fraction ⟨Nat.le_of_ble_eq_true rfl, Nat.le_of_ble_eq_true rfl⟩ hK hP9 hD9 (kCtx_nil _) rfl hl9.1 (Nat.le_of_ble_eq_true rfl) dX7_share_91 ⟨Nat.zero_le _, Nat.zero_le _⟩) hP9 hD9 hS9 hA (kCtx_nil _) (fun _ => rfl) (fun r4 _ H10 locs10 hw hP10 hD10 hS10 => ?_)
        have hr4 : r_X7_fraction up_1 up_1.toInt.natAbs 24 p1 = r4 := (show r4 = r_X7_fraction up_1 up_1.toInt.natAbs 24 p1 from hw).symm
        have hP11 : va_P G.1 vwCl ([(h0, .inr (7, cM Z_1 q1 q2 q3 q4 q5 q6 q7 q8 q9 q10 q11 sd)), (q4, .inl (G.2.1, 55, .inl pg)), (q5, .inl (G.2.1, 55, .inl tr_1))]) H10 := hP10
        have hD12 : va_D A ([(h0, .inr (7, cM Z_1 q1 q2 q3 q4 q5 q6 q7 q8 q9 q10 q11 sd)), (q4, .inl (G.2.1, 55, .inl pg)), (q5, .inl (G.2.1, 55, .inl tr_1))]) := hD10
        have er : r_X7_share Z pg tr p0 p1 = r4 := by rw [hr_1, l_X7_share_1_r]; (try rw [hr4]); first | done | rfl
        have e0 : s_X7_share_Z Z pg tr p0 = Z_1 := by rw [hZ_1, l_X7_share_1_Z]; (try rw [hr4]); first | done | rfl
        have e1 : s_X7_share_tr Z pg tr p0 = tr_1 := by rw [htr_1, l_X7_share_1_tr]; (try rw [hr4]); first | done | rfl
        exact k_iret kx hK hP11 hD12 hS10 (u := (Z_1, tr_1)) rfl ⟨er.symm, e0.symm, e1.symm⟩ dX7_share_94
      | succ n1 ih1 =>
        intro j1 up_1 Z_1 tr_1 hj1 hr_1 hZ_1 htr_1 hu1 H9 locs9 ls9 hP9 hD9 hS9 hl9
        refine lv_iload hx hb dX7_share_24 (lv_at hl9 4 rfl) ?_
        refine lv_bipush (v := 16) hx hb dX7_share_26 (by decide) ?_
        refine lv_icmp_ge (x := nI j1) (y := 16) (tgt := 87) hx hb dX7_share_28 (by decide) (fun (c5 : 16 ≤ nI j1) => absurd c5 (kle_s rfl hj1 (by decide))) (fun (c5 : ¬ (16 ≤ nI j1)) => ?_)
        refine lv_iload hx hb dX7_share_31 (lv_at hl9 4 rfl) ?_
        refine lv_iload_n hx hb dX7_share_33 rfl (lv_at hl9 1 rfl) ?_
        refine k_calli (kRunS (As := [.int (nI j1), .int p0]) (rest := []) kx (c_X7_has l G (nI j1) p0) q_814 q_812 q_36 q_813 nX7_has ⟨Nat.le_of_ble_eq_true rfl, Nat.le_of_ble_eq_true rfl⟩ hK hP9 hD9 (kCtx_nil _) rfl hl9.1 (Nat.le_of_ble_eq_true rfl) dX7_share_34 ⟨Nat.zero_le _, Nat.zero_le _⟩) hP9 hD9 hS9 hA (kCtx_nil _) (fun _ => rfl) (fun r6 _ H13 locs13 hw hP13 hD13 hS13 => ?_)
        have hr6 : r_X7_has (nI j1) p0 = r6 := (show r6 = r_X7_has (nI j1) p0 from hw).symm
        have hP14 : va_P G.1 vwCl ([(h0, .inr (7, cM Z_1 q1 q2 q3 q4 q5 q6 q7 q8 q9 q10 q11 sd)), (q4, .inl (G.2.1, 55, .inl pg)), (q5, .inl (G.2.1, 55, .inl tr_1))]) H13 := hP13
        have hD15 : va_D A ([(h0, .inr (7, cM Z_1 q1 q2 q3 q4 q5 q6 q7 q8 q9 q10 q11 sd)), (q4, .inl (G.2.1, 55, .inl pg)), (q5, .inl (G.2.1, 55, .inl tr_1))]) := hD13
        refine lv_if_ne (x := r6) (tgt := 81) hx hb dX7_share_37 (by decide) (fun (c7 : ¬ (r6 = 0)) => ?_) (fun (c7 : r6 = 0) => ?_)
        · skip
          refine lv_iinc (v := nI (j1 + 1)) (lv' := [(4, .int (nI (j1 + 1))), (0, .ref h0), (1, .int p0), (2, .int p1), (3, .int up_1)]) hx hb dX7_share_81 hl9 (k := 4) rfl (nI_1 j1) (by decide) rfl (fun ls16 hl16 => ?_)
          refine lv_goto (tgt := 24) hx hb dX7_share_84 (by decide) ?_
          subst hr6
          have gr : r_X7_share Z pg tr p0 p1 = l_X7_share_1_r pg p0 p1 n1 (j1 + 1) up_1 Z_1 tr_1 := by rw [hr_1, l_X7_share_1_r, if_neg c7]
          have gZ : s_X7_share_Z Z pg tr p0 = l_X7_share_1_Z pg p0 n1 (j1 + 1) up_1 Z_1 tr_1 := by rw [hZ_1, l_X7_share_1_Z, if_neg c7]
          have gtr : s_X7_share_tr Z pg tr p0 = l_X7_share_1_tr pg p0 n1 (j1 + 1) up_1 Z_1 tr_1 := by rw [htr_1, l_X7_share_1_tr, if_neg c7]
          exact ih1 (j1 + 1) up_1 Z_1 tr_1 (by omega) gr gZ gtr (kBd_le hu1 (by omega)) _ _ _ hP14 hD15 hS13 (lv_sub hl16 [1, 2, 3, 4, 0] rfl)
        · skip
          refine lv_iload hx hb dX7_share_40 (lv_at hl9 4 rfl) ?_
          refine k_calli (kRunS (As := [.int (nI j1)]) (rest := []) kx (c_X7_ones l G (nI j1)) q_937 q_935 q_36 q_936 nX7_ones ⟨Nat.le_of_ble_eq_true rfl, Nat.le_of_ble_eq_true rfl⟩ hK hP14 hD15 (kCtx_nil _) rfl hl9.1 (Nat.le_of_ble_eq_true rfl) dX7_share_42 ⟨Nat.zero_le _, Nat.zero_le _⟩) hP14 hD15 hS13 hA (kCtx_nil _) (fun _ => rfl) (fun r8 _ H17 locs17 hw hP17 hD17 hS17 => ?_)
          have hr8 : r_X7_ones (nI j1) = r8 := (show r8 = r_X7_ones (nI j1) from hw).symm
          have hP18 : va_P G.1 vwCl ([(h0, .inr (7, cM Z_1 q1 q2 q3 q4 q5 q6 q7 q8 q9 q10 q11 sd)), (q4, .inl (G.2.1, 55, .inl pg)), (q5, .inl (G.2.1, 55, .inl tr_1))]) H17 := hP17
          have hD19 : va_D A ([(h0, .inr (7, cM Z_1 q1 q2 q3 q4 q5 q6 q7 q8 q9 q10 q11 sd)), (q4, .inl (G.2.1, 55, .inl pg)), (q5, .inl (G.2.1, 55, .inl tr_1))]) := hD17
          refine lv_istore (lv' := [(5, .int r8), (0, .ref h0), (1, .int p0), (2, .int p1), (3, .int up_1), (4, .int (nI j1))]) hx hb dX7_share_45 hl9 (by decide) rfl (fun ls20 hl20 => ?_)
          refine lv_iload_n hx hb dX7_share_47 rfl (lv_at hl20 4 rfl) ?_
          refine lv_iload hx hb dX7_share_48 (lv_at hl20 0 rfl) ?_
          refine k_calli (kRunS (As := [.int r8]) (rest := [.int up_1]) kx (c_X7_factorial l G r8 (by rw [← hr8]; exact (kones16 ⟨j1, by omega⟩).1)) q_940 q_938 q_36 q_939 nX7_factorial ⟨Nat.le_of_ble_eq_true rfl, Nat.le_of_ble_eq_true rfl⟩ hK hP18 hD19 (kCtx_nil _) rfl hl20.1 (Nat.le_of_ble_eq_true rfl) dX7_share_50 ⟨Nat.zero_le _, Nat.zero_le _⟩) hP18 hD19 hS17 hA (kCtx_nil _) (fun _ => rfl) (fun r9 _ H21 locs21 hw hP21 hD21 hS21 => ?_)
          have hr9 : r_X7_factorial r8 = r9 := (show r9 = r_X7_factorial r8 from hw).symm
          have hP22 : va_P G.1 vwCl ([(h0, .inr (7, cM Z_1 q1 q2 q3 q4 q5 q6 q7 q8 q9 q10 q11 sd)), (q4, .inl (G.2.1, 55, .inl pg)), (q5, .inl (G.2.1, 55, .inl tr_1))]) H21 := hP21
          have hD23 : va_D A ([(h0, .inr (7, cM Z_1 q1 q2 q3 q4 q5 q6 q7 q8 q9 q10 q11 sd)), (q4, .inl (G.2.1, 55, .inl pg)), (q5, .inl (G.2.1, 55, .inl tr_1))]) := hD21
          refine lv_iconst (v := 3) hx hb dX7_share_53 (by decide) ?_
          refine lv_iload hx hb dX7_share_54 (lv_at hl20 0 rfl) ?_
          refine lv_isub hx hb dX7_share_56 ?_
          refine k_calli (kRunS (As := [.int (3 - r8)]) (rest := [.int r9, .int up_1]) kx (c_X7_factorial l G (3 - r8) (by rw [← hr8]; exact (kones16 ⟨j1, by omega⟩).2.1)) q_940 q_938 q_36 q_939 nX7_factorial ⟨Nat.le_of_ble_eq_true rfl, Nat.le_of_ble_eq_true rfl⟩ hK hP22 hD23 (kCtx_nil _) rfl hl20.1 (Nat.le_of_ble_eq_true rfl) dX7_share_57 ⟨Nat.zero_le _, Nat.zero_le _⟩) hP22 hD23 hS21 hA (kCtx_nil _) (fun _ => rfl) (fun r10 _ H24 locs24 hw hP24 hD24 hS24 => ?_)
          have hr10 : r_X7_factorial (3 - r8) = r10 := (show r10 = r_X7_factorial (3 - r8) from hw).symm
          have hP25 : va_P G.1 vwCl ([(h0, .inr (7, cM Z_1 q1 q2 q3 q4 q5 q6 q7 q8 q9 q10 q11 sd)), (q4, .inl (G.2.1, 55, .inl pg)), (q5, .inl (G.2.1, 55, .inl tr_1))]) H24 := hP24
          have hD26 : va_D A ([(h0, .inr (7, cM Z_1 q1 q2 q3 q4 q5 q6 q7 q8 q9 q10 q11 sd)), (q4, .inl (G.2.1, 55, .inl pg)), (q5, .inl (G.2.1, 55, .inl tr_1))]) := hD24
          refine lv_imul hx hb dX7_share_60 ?_
          refine lv_aload_n hx hb dX7_share_61 rfl (lv_at hl20 1 rfl) ?_
          refine lv_iload hx hb dX7_share_62 (lv_at hl20 5 rfl) ?_
          refine k_calli (kRunV (As := [.int (nI j1)]) (rest := [.int (r9 * r10), .int up_1]) kx (c_X7_sentBy l G Z_1 sd h0 q1 q2 q3 q4 q5 q6 q7 q8 q9 q10 q11 pg tr_1 (nI j1)) q_944 q_941 q_36 q_943 q_27 nX7_sentBy ⟨Nat.le_of_ble_eq_true rfl, Nat.le_of_ble_eq_true rfl⟩ hK hP25 hD26 (kCtx_all _) 0 7 rfl rfl rfl rfl hl20.1 (Nat.le_of_ble_eq_true rfl) dX7_share_64 ⟨Nat.zero_le _, Nat.zero_le _⟩) hP25 hD26 hS24 hA (kCtx_all _) (fun _ => rfl) (fun r11 u H27 locs27 hw hP27 hD27 hS27 => ?_)
          obtain ⟨F12, F13⟩ := u
          obtain ⟨hr11, hF12, hF13⟩ := hw
          have hr11 : r_X7_sentBy Z_1 pg tr_1 (nI j1) = r11 := (show r11 = r_X7_sentBy Z_1 pg tr_1 (nI j1) from hr11).symm
          have hF12 : s_X7_sentBy_Z Z_1 pg tr_1 (nI j1) = F12 := (show F12 = s_X7_sentBy_Z Z_1 pg tr_1 (nI j1) from hF12).symm
          have hF13 : s_X7_sentBy_tr Z_1 pg tr_1 (nI j1) = F13 := (show F13 = s_X7_sentBy_tr Z_1 pg tr_1 (nI j1) from hF13).symm
          have hP28 : va_P G.1 vwCl ([(h0, .inr (7, cM F12 q1 q2 q3 q4 q5 q6 q7 q8 q9 q10 q11 sd)), (q4, .inl (G.2.1, 55, .inl pg)), (q5, .inl (G.2.1, 55, .inl F13))]) H27 := hP27
          have hD29 : va_D A ([(h0, .inr (7, cM F12 q1 q2 q3 q4 q5 q6 q7 q8 q9 q10 q11 sd)), (q4, .inl (G.2.1, 55, .inl pg)), (q5, .inl (G.2.1, 55, .inl F13))]) := hD27
          refine lv_aload_n hx hb dX7_share_67 rfl (lv_at hl20 1 rfl) ?_
          refine lv_iload hx hb dX7_share_68 (lv_at hl20 5 rfl) ?_
          refine lv_iconst (v := 1) hx hb dX7_share_70 (by decide) ?_
          refine lv_iload_n hx hb dX7_share_71 rfl (lv_at hl20 2 rfl) ?_
          refine lv_ishl hx hb dX7_share_72 ?_
          refine k_top (y := kShl 1 p0) rfl ?_
          refine lv_ior hx hb dX7_share_73 ?_
          refine k_calli (kRunV (As := [.int ((nI j1) ||| (kShl 1 p0))]) (rest := [.int r11, .int (r9 * r10), .int up_1]) kx (c_X7_sentBy l G F12 sd h0 q1 q2 q3 q4 q5 q6 q7 q8 q9 q10 q11 pg F13 ((nI j1) ||| (kShl 1 p0))) q_944 q_941 q_36 q_943 q_27 nX7_sentBy ⟨Nat.le_of_ble_eq_true rfl, Nat.le_of_ble_eq_true rfl⟩ hK hP28 hD29 (kCtx_all _) 0 7 rfl rfl rfl rfl hl20.1 (Nat.le_of_ble_eq_true rfl) dX7_share_74 ⟨Nat.zero_le _, Nat.zero_le _⟩) hP28 hD29 hS27 hA (kCtx_all _) (fun _ => rfl) (fun r14 u H30 locs30 hw hP30 hD30 hS30 => ?_)
          obtain ⟨F15, F16⟩ := u
          obtain ⟨hr14, hF15, hF16⟩ := hw
          have hr14 : r_X7_sentBy F12 pg F13 ((nI j1) ||| (kShl 1 p0)) = r14 := (show r14 = r_X7_sentBy F12 pg F13 ((nI j1) ||| (kShl 1 p0)) from hr14).symm
          have hF15 : s_X7_sentBy_Z F12 pg F13 ((nI j1) ||| (kShl 1 p0)) = F15 := (show F15 = s_X7_sentBy_Z F12 pg F13 ((nI j1) ||| (kShl 1 p0)) from hF15).symm
          have hF16 : s_X7_sentBy_tr F12 pg F13 ((nI j1) ||| (kShl 1 p0)) = F16 := (show F16 = s_X7_sentBy_tr F12 pg F13 ((nI j1) ||| (kShl 1 p0)) from hF16).symm
          have hP31 : va_P G.1 vwCl ([(h0, .inr (7, cM F15 q1 q2 q3 q4 q5 q6 q7 q8 q9 q10 q11 sd)), (q4, .inl (G.2.1, 55, .inl pg)), (q5, .inl (G.2.1, 55, .inl F16))]) H30 := hP30
          have hD32 : va_D A ([(h0, .inr (7, cM F15 q1 q2 q3 q4 q5 q6 q7 q8 q9 q10 q11 sd)), (q4, .inl (G.2.1, 55, .inl pg)), (q5, .inl (G.2.1, 55, .inl F16))]) := hD30
          refine lv_isub hx hb dX7_share_77 ?_
          refine lv_imul hx hb dX7_share_78 ?_
          refine lv_iadd hx hb dX7_share_79 ?_
          refine lv_istore_n (lv' := [(3, .int (up_1 + ((r9 * r10) * (r11 - r14)))), (5, .int r8), (0, .ref h0), (1, .int p0), (2, .int p1), (4, .int (nI j1))]) hx hb dX7_share_80 rfl hl20 (by decide) rfl (fun ls33 hl33 => ?_)
          refine lv_iinc (v := nI (j1 + 1)) (lv' := [(4, .int (nI (j1 + 1))), (3, .int (up_1 + ((r9 * r10) * (r11 - r14)))), (5, .int r8), (0, .ref h0), (1, .int p0), (2, .int p1)]) hx hb dX7_share_81 hl33 (k := 5) rfl (nI_1 j1) (by decide) rfl (fun ls34 hl34 => ?_)
          refine lv_goto (tgt := 24) hx hb dX7_share_84 (by decide) ?_
          subst hr6
          subst hr8
          subst hr9
          subst hr10
          subst hF12
          subst hF13
          subst hr11
          subst hF15
          subst hF16
          subst hr14
          have gr : r_X7_share Z pg tr p0 p1 = l_X7_share_1_r pg p0 p1 n1 (j1 + 1) (up_1 + (((r_X7_factorial (r_X7_ones (nI j1))) * (r_X7_factorial (3 - (r_X7_ones (nI j1))))) * ((r_X7_sentBy Z_1 pg tr_1 (nI j1)) - (r_X7_sentBy (s_X7_sentBy_Z Z_1 pg tr_1 (nI j1)) pg (s_X7_sentBy_tr Z_1 pg tr_1 (nI j1)) ((nI j1) ||| (kShl 1 p0)))))) (s_X7_sentBy_Z (s_X7_sentBy_Z Z_1 pg tr_1 (nI j1)) pg (s_X7_sentBy_tr Z_1 pg tr_1 (nI j1)) ((nI j1) ||| (kShl 1 p0))) (s_X7_sentBy_tr (s_X7_sentBy_Z Z_1 pg tr_1 (nI j1)) pg (s_X7_sentBy_tr Z_1 pg tr_1 (nI j1)) ((nI j1) ||| (kShl 1 p0))) := by rw [hr_1, l_X7_share_1_r, if_pos c7]
          have gZ : s_X7_share_Z Z pg tr p0 = l_X7_share_1_Z pg p0 n1 (j1 + 1) (up_1 + (((r_X7_factorial (r_X7_ones (nI j1))) * (r_X7_factorial (3 - (r_X7_ones (nI j1))))) * ((r_X7_sentBy Z_1 pg tr_1 (nI j1)) - (r_X7_sentBy (s_X7_sentBy_Z Z_1 pg tr_1 (nI j1)) pg (s_X7_sentBy_tr Z_1 pg tr_1 (nI j1)) ((nI j1) ||| (kShl 1 p0)))))) (s_X7_sentBy_Z (s_X7_sentBy_Z Z_1 pg tr_1 (nI j1)) pg (s_X7_sentBy_tr Z_1 pg tr_1 (nI j1)) ((nI j1) ||| (kShl 1 p0))) (s_X7_sentBy_tr (s_X7_sentBy_Z Z_1 pg tr_1 (nI j1)) pg (s_X7_sentBy_tr Z_1 pg tr_1 (nI j1)) ((nI j1) ||| (kShl 1 p0))) := by rw [hZ_1, l_X7_share_1_Z, if_pos c7]
          have gtr : s_X7_share_tr Z pg tr p0 = l_X7_share_1_tr pg p0 n1 (j1 + 1) (up_1 + (((r_X7_factorial (r_X7_ones (nI j1))) * (r_X7_factorial (3 - (r_X7_ones (nI j1))))) * ((r_X7_sentBy Z_1 pg tr_1 (nI j1)) - (r_X7_sentBy (s_X7_sentBy_Z Z_1 pg tr_1 (nI j1)) pg (s_X7_sentBy_tr Z_1 pg tr_1 (nI j1)) ((nI j1) ||| (kShl 1 p0)))))) (s_X7_sentBy_Z (s_X7_sentBy_Z Z_1 pg tr_1 (nI j1)) pg (s_X7_sentBy_tr Z_1 pg tr_1 (nI j1)) ((nI j1) ||| (kShl 1 p0))) (s_X7_sentBy_tr (s_X7_sentBy_Z Z_1 pg tr_1 (nI j1)) pg (s_X7_sentBy_tr Z_1 pg tr_1 (nI j1)) ((nI j1) ||| (kShl 1 p0))) := by rw [htr_1, l_X7_share_1_tr, if_pos c7]
          exact ih1 (j1 + 1) (up_1 + (((r_X7_factorial (r_X7_ones (nI j1))) * (r_X7_factorial (3 - (r_X7_ones (nI j1))))) * ((r_X7_sentBy Z_1 pg tr_1 (nI j1)) - (r_X7_sentBy (s_X7_sentBy_Z Z_1 pg tr_1 (nI j1)) pg (s_X7_sentBy_tr Z_1 pg tr_1 (nI j1)) ((nI j1) ||| (kShl 1 p0)))))) (s_X7_sentBy_Z (s_X7_sentBy_Z Z_1 pg tr_1 (nI j1)) pg (s_X7_sentBy_tr Z_1 pg tr_1 (nI j1)) ((nI j1) ||| (kShl 1 p0))) (s_X7_sentBy_tr (s_X7_sentBy_Z Z_1 pg tr_1 (nI j1)) pg (s_X7_sentBy_tr Z_1 pg tr_1 (nI j1)) ((nI j1) ||| (kShl 1 p0))) (by omega) gr gZ gtr (kshare _ _ _ _ _ _ _ (by omega) hu1) _ _ _ hP31 hD32 hS30 (lv_sub hl34 [3, 4, 5, 1, 0] rfl)
    have gr : r_X7_share Z pg tr p0 p1 = l_X7_share_1_r pg p0 p1 16 0 0 (upd Z 0 0) tr := by rw [r_X7_share, if_neg c2]
    have gZ : s_X7_share_Z Z pg tr p0 = l_X7_share_1_Z pg p0 16 0 0 (upd Z 0 0) tr := by rw [s_X7_share_Z, if_neg c2]
    have gtr : s_X7_share_tr Z pg tr p0 = l_X7_share_1_tr pg p0 16 0 0 (upd Z 0 0) tr := by rw [s_X7_share_tr, if_neg c2]
    exact lp1 16 0 0 (upd Z 0 0) tr (by omega) gr gZ gtr (kBd_le kBd_0 (by omega)) _ _ _ hP5 hD6 hS4 (lv_sub hl8 [2, 3, 4, 1, 0] rfl)
  · skip
    refine lv_iconst (v := (-1)) hx hb dX7_share_17 (by decide) ?_
    have er : r_X7_share Z pg tr p0 p1 = (-1) := by rw [r_X7_share]; (try rw [hr1]); rw [if_pos c2]
    have e0 : s_X7_share_Z Z pg tr p0 = upd Z 0 0 := by rw [s_X7_share_Z]; (try rw [hr1]); rw [if_pos c2]
    have e1 : s_X7_share_tr Z pg tr p0 = tr := by rw [s_X7_share_tr]; (try rw [hr1]); rw [if_pos c2]
    exact k_iret kx hK hP5 hD6 hS4 (u := (upd Z 0 0, tr)) rfl ⟨er.symm, e0.symm, e1.symm⟩ dX7_share_18

theorem kpow2 {r : Nat} (hr : r ≤ 6) : 2 ^ r ≤ 64 := (show 2 ^ r ≤ 2 ^ 6 from Nat.pow_le_pow_right (by decide) hr)

def l_X7_luck_ok_1_r (pg : Nat → Int32) (rn : Nat) (xn : Nat) (p2 : Int32) (k40 : Int32) : Nat → Nat → Int32 → (Nat → Int32) → (Nat → Int32) → Int32
  | 0, j1, up_1, Z_1, tr_1 => r_X7_fraction up_1 up_1.toInt.natAbs (10 ^ rn) p2
  | n1 + 1, j1, up_1, Z_1, tr_1 => if (s_X7_goFor_f (upd (upd (upd (upd (upd Z_1 18 (-9)) 20 0) 21 6) 20 (nI j1)) 21 0) (s_X7_lay_t pg tr_1) k40) 5 = 2 then (if (s_X7_goFor_f (upd (upd (upd (upd (upd Z_1 18 (-9)) 20 0) 21 6) 20 (nI j1)) 21 0) (s_X7_lay_t pg tr_1) k40) 21 = 2 then (l_X7_luck_ok_1_r pg rn xn p2 k40 n1 (j1 + 1) (up_1 + ((r_X7_power (nI xn) (r_X7_ones (nI j1))) * (r_X7_power (10 - (nI xn)) ((nI rn) - (r_X7_ones (nI j1)))))) (s_X7_goFor_Z (upd (upd (upd (upd (upd Z_1 18 (-9)) 20 0) 21 6) 20 (nI j1)) 21 0) (s_X7_lay_t pg tr_1) k40) (s_X7_goFor_f (upd (upd (upd (upd (upd Z_1 18 (-9)) 20 0) 21 6) 20 (nI j1)) 21 0) (s_X7_lay_t pg tr_1) k40)) else l_X7_luck_ok_1_r pg rn xn p2 k40 n1 (j1 + 1) (up_1 + 0) (s_X7_goFor_Z (upd (upd (upd (upd (upd Z_1 18 (-9)) 20 0) 21 6) 20 (nI j1)) 21 0) (s_X7_lay_t pg tr_1) k40) (s_X7_goFor_f (upd (upd (upd (upd (upd Z_1 18 (-9)) 20 0) 21 6) 20 (nI j1)) 21 0) (s_X7_lay_t pg tr_1) k40)) else l_X7_luck_ok_1_r pg rn xn p2 k40 n1 (j1 + 1) (up_1 + 0) (s_X7_goFor_Z (upd (upd (upd (upd (upd Z_1 18 (-9)) 20 0) 21 6) 20 (nI j1)) 21 0) (s_X7_lay_t pg tr_1) k40) (s_X7_goFor_f (upd (upd (upd (upd (upd Z_1 18 (-9)) 20 0) 21 6) 20 (nI j1)) 21 0) (s_X7_lay_t pg tr_1) k40)
def r_X7_luck_ok (Z : Nat → Int32) (pg : Nat → Int32) (tr : Nat → Int32) (rn : Nat) (xn : Nat) (p2 : Int32) (k40 : Int32) : Int32 := l_X7_luck_ok_1_r pg rn xn p2 k40 (2 ^ rn) 0 0 (upd Z 0 0) tr
def l_X7_luck_ok_1_Z (pg : Nat → Int32) (rn : Nat) (xn : Nat) (k40 : Int32) : Nat → Nat → Int32 → (Nat → Int32) → (Nat → Int32) → Nat → Int32
  | 0, j1, up_1, Z_1, tr_1 => Z_1
  | n1 + 1, j1, up_1, Z_1, tr_1 => if (s_X7_goFor_f (upd (upd (upd (upd (upd Z_1 18 (-9)) 20 0) 21 6) 20 (nI j1)) 21 0) (s_X7_lay_t pg tr_1) k40) 5 = 2 then (if (s_X7_goFor_f (upd (upd (upd (upd (upd Z_1 18 (-9)) 20 0) 21 6) 20 (nI j1)) 21 0) (s_X7_lay_t pg tr_1) k40) 21 = 2 then (l_X7_luck_ok_1_Z pg rn xn k40 n1 (j1 + 1) (up_1 + ((r_X7_power (nI xn) (r_X7_ones (nI j1))) * (r_X7_power (10 - (nI xn)) ((nI rn) - (r_X7_ones (nI j1)))))) (s_X7_goFor_Z (upd (upd (upd (upd (upd Z_1 18 (-9)) 20 0) 21 6) 20 (nI j1)) 21 0) (s_X7_lay_t pg tr_1) k40) (s_X7_goFor_f (upd (upd (upd (upd (upd Z_1 18 (-9)) 20 0) 21 6) 20 (nI j1)) 21 0) (s_X7_lay_t pg tr_1) k40)) else l_X7_luck_ok_1_Z pg rn xn k40 n1 (j1 + 1) (up_1 + 0) (s_X7_goFor_Z (upd (upd (upd (upd (upd Z_1 18 (-9)) 20 0) 21 6) 20 (nI j1)) 21 0) (s_X7_lay_t pg tr_1) k40) (s_X7_goFor_f (upd (upd (upd (upd (upd Z_1 18 (-9)) 20 0) 21 6) 20 (nI j1)) 21 0) (s_X7_lay_t pg tr_1) k40)) else l_X7_luck_ok_1_Z pg rn xn k40 n1 (j1 + 1) (up_1 + 0) (s_X7_goFor_Z (upd (upd (upd (upd (upd Z_1 18 (-9)) 20 0) 21 6) 20 (nI j1)) 21 0) (s_X7_lay_t pg tr_1) k40) (s_X7_goFor_f (upd (upd (upd (upd (upd Z_1 18 (-9)) 20 0) 21 6) 20 (nI j1)) 21 0) (s_X7_lay_t pg tr_1) k40)
def s_X7_luck_ok_Z (Z : Nat → Int32) (pg : Nat → Int32) (tr : Nat → Int32) (rn : Nat) (xn : Nat) (k40 : Int32) : Nat → Int32 := l_X7_luck_ok_1_Z pg rn xn k40 (2 ^ rn) 0 0 (upd Z 0 0) tr
def l_X7_luck_ok_1_tr (pg : Nat → Int32) (rn : Nat) (xn : Nat) (k40 : Int32) : Nat → Nat → Int32 → (Nat → Int32) → (Nat → Int32) → Nat → Int32
  | 0, j1, up_1, Z_1, tr_1 => tr_1
  | n1 + 1, j1, up_1, Z_1, tr_1 => if (s_X7_goFor_f (upd (upd (upd (upd (upd Z_1 18 (-9)) 20 0) 21 6) 20 (nI j1)) 21 0) (s_X7_lay_t pg tr_1) k40) 5 = 2 then (if (s_X7_goFor_f (upd (upd (upd (upd (upd Z_1 18 (-9)) 20 0) 21 6) 20 (nI j1)) 21 0) (s_X7_lay_t pg tr_1) k40) 21 = 2 then (l_X7_luck_ok_1_tr pg rn xn k40 n1 (j1 + 1) (up_1 + ((r_X7_power (nI xn) (r_X7_ones (nI j1))) * (r_X7_power (10 - (nI xn)) ((nI rn) - (r_X7_ones (nI j1)))))) (s_X7_goFor_Z (upd (upd (upd (upd (upd Z_1 18 (-9)) 20 0) 21 6) 20 (nI j1)) 21 0) (s_X7_lay_t pg tr_1) k40) (s_X7_goFor_f (upd (upd (upd (upd (upd Z_1 18 (-9)) 20 0) 21 6) 20 (nI j1)) 21 0) (s_X7_lay_t pg tr_1) k40)) else l_X7_luck_ok_1_tr pg rn xn k40 n1 (j1 + 1) (up_1 + 0) (s_X7_goFor_Z (upd (upd (upd (upd (upd Z_1 18 (-9)) 20 0) 21 6) 20 (nI j1)) 21 0) (s_X7_lay_t pg tr_1) k40) (s_X7_goFor_f (upd (upd (upd (upd (upd Z_1 18 (-9)) 20 0) 21 6) 20 (nI j1)) 21 0) (s_X7_lay_t pg tr_1) k40)) else l_X7_luck_ok_1_tr pg rn xn k40 n1 (j1 + 1) (up_1 + 0) (s_X7_goFor_Z (upd (upd (upd (upd (upd Z_1 18 (-9)) 20 0) 21 6) 20 (nI j1)) 21 0) (s_X7_lay_t pg tr_1) k40) (s_X7_goFor_f (upd (upd (upd (upd (upd Z_1 18 (-9)) 20 0) 21 6) 20 (nI j1)) 21 0) (s_X7_lay_t pg tr_1) k40)
def s_X7_luck_ok_tr (Z : Nat → Int32) (pg : Nat → Int32) (tr : Nat → Int32) (rn : Nat) (xn : Nat) (k40 : Int32) : Nat → Int32 := l_X7_luck_ok_1_tr pg rn xn k40 (2 ^ rn) 0 0 (upd Z 0 0) tr
set_option maxHeartbeats 4000000 in
set_option maxRecDepth 100000 in
theorem c_X7_luck_ok (l : Launch) (G : kG) (Z : Nat → Int32) (sd : Int64) (h0 : Nat) (q1 : Nat) (q2 : Nat) (q3 : Nat) (q4 : Nat) (q5 : Nat) (q6 : Nat) (q7 : Nat) (q8 : Nat) (q9 : Nat) (q10 : Nat) (q11 : Nat) (pg : Nat → Int32) (tr : Nat → Int32) (rn : Nat) (xn : Nat) (p2 : Int32) (k40 : Int32) (hrr : rn ≤ 6) (hxx : xn ≤ 10) (hi1 : ¬ r_X7_in (nI rn).toInt64 0 6 = 0) (hi2 : ¬ r_X7_in (nI xn).toInt64 0 10 = 0) (h40 : k40 = 40) : cG l G yX7_luck cX7_luck 7 (some .int) 6 [.ref h0, .int (nI rn), .int (nI xn), .int p2] ([(h0, .inr (7, cM Z q1 q2 q3 q4 q5 q6 q7 q8 q9 q10 q11 sd)), (q4, .inl (G.2.1, 55, .inl pg)), (q5, .inl (G.2.1, 55, .inl tr))]) (qI G (fun (r : Int32) (u : ((Nat → Int32) × (Nat → Int32))) => r = r_X7_luck_ok Z pg tr rn xn p2 k40 ∧ u.1 = s_X7_luck_ok_Z Z pg tr rn xn k40 ∧ u.2 = s_X7_luck_ok_tr Z pg tr rn xn k40) (fun u => [(h0, .inr (7, cM u.1 q1 q2 q3 q4 q5 q6 q7 q8 q9 q10 q11 sd)), (q4, .inl (G.2.1, 55, .inl pg)), (q5, .inl (G.2.1, 55, .inl u.2))])) := by
  refine kintro (by decide) (Nat.le_of_ble_eq_true rfl) ?_
  intro p e s m args below meth c A ls kx hK hP hD hS hA hl
  have kx : kX p s m args meth c cX7_luck 7 (some .int) RX7 := kx
  have hx := kx.1
  have hb := kx.2.1
  have hown := kx.2.2.2.2.1
  have ht := kx.2.2.2.2.2.2
  have hl : lv_has ls 7 [(0, .ref h0), (1, .int (nI rn)), (2, .int (nI xn)), (3, .int p2)] := hl
  refine lv_aload_n hx hb dX7_luck_0 rfl (lv_at hl 0 rfl) ?_
  refine lv_iconst (v := 0) hx hb dX7_luck_1 (by decide) ?_
  refine va_put (ci := 7) (v := .int 0) (ty := .int) (C := RX7) (T := TX7) (N := 22) hx hb ht inX7 tyX7 tyX7_ok nmX7 hown hK.1 hP hD hS 0 rfl rfl 0 (by decide) (ht _ q_666) (fun _ h9 => h9) rfl (by decide +kernel) rfl rfl (Nat.le_of_ble_eq_true rfl) dX7_luck_2 (fun H1 locs1 hP1 hD1 hS1 => ?_)
  have hP2 : va_P G.1 vwCl ([(h0, .inr (7, cM (upd Z 0 0) q1 q2 q3 q4 q5 q6 q7 q8 q9 q10 q11 sd)), (q4, .inl (G.2.1, 55, .inl pg)), (q5, .inl (G.2.1, 55, .inl tr))]) H1 := hP1
  have hD3 : va_D A ([(h0, .inr (7, cM (upd Z 0 0) q1 q2 q3 q4 q5 q6 q7 q8 q9 q10 q11 sd)), (q4, .inl (G.2.1, 55, .inl pg)), (q5, .inl (G.2.1, 55, .inl tr))]) := hD1
  refine lv_iload_n hx hb dX7_luck_5 rfl (lv_at hl 1 rfl) ?_
  refine lv_i2l (v := (nI rn).toInt64) hx hb dX7_luck_6 rfl ?_
  refine lv_lconst (v := 0) hx hb dX7_luck_7 (by decide) ?_
  refine lv_ldc2 (v := 6) hx hb hown (ht _ q_955) dX7_luck_8 ?_
  refine k_calli (kRunS (As := [.long ((nI rn).toInt64), .long 0, .long 6]) (rest := []) kx (c_X7_in l G ((nI rn).toInt64) 0 6) q_740 q_738 q_36 q_739 nX7_in ⟨Nat.le_of_ble_eq_true rfl, Nat.le_of_ble_eq_true rfl⟩ hK hP2 hD3 (kCtx_nil _) rfl hl.1 (Nat.le_of_ble_eq_true rfl) dX7_luck_11 ⟨Nat.zero_le _, Nat.zero_le _⟩) hP2 hD3 hS1 hA (kCtx_nil _) (fun _ => rfl) (fun r1 _ H4 locs4 hw hP4 hD4 hS4 => ?_)
  have hr1 : r_X7_in ((nI rn).toInt64) 0 6 = r1 := (show r1 = r_X7_in ((nI rn).toInt64) 0 6 from hw).symm
  have hP5 : va_P G.1 vwCl ([(h0, .inr (7, cM (upd Z 0 0) q1 q2 q3 q4 q5 q6 q7 q8 q9 q10 q11 sd)), (q4, .inl (G.2.1, 55, .inl pg)), (q5, .inl (G.2.1, 55, .inl tr))]) H4 := hP4
  have hD6 : va_D A ([(h0, .inr (7, cM (upd Z 0 0) q1 q2 q3 q4 q5 q6 q7 q8 q9 q10 q11 sd)), (q4, .inl (G.2.1, 55, .inl pg)), (q5, .inl (G.2.1, 55, .inl tr))]) := hD4
  refine lv_if_eq (x := r1) (tgt := 29) hx hb dX7_luck_14 (by decide) (fun (c2 : r1 = 0) => absurd c2 (fun q => hi1 (hr1.trans q))) (fun (c2 : ¬ (r1 = 0)) => ?_)
  refine lv_iload_n hx hb dX7_luck_17 rfl (lv_at hl 2 rfl) ?_
  refine lv_i2l (v := (nI xn).toInt64) hx hb dX7_luck_18 rfl ?_
  refine lv_lconst (v := 0) hx hb dX7_luck_19 (by decide) ?_
  refine lv_ldc2 (v := 10) hx hb hown (ht _ q_956) dX7_luck_20 ?_
  refine k_calli (kRunS (As := [.long ((nI xn).toInt64), .long 0, .long 10]) (rest := []) kx (c_X7_in l G ((nI xn).toInt64) 0 10) q_740 q_738 q_36 q_739 nX7_in ⟨Nat.le_of_ble_eq_true rfl, Nat.le_of_ble_eq_true rfl⟩ hK hP5 hD6 (kCtx_nil _) rfl hl.1 (Nat.le_of_ble_eq_true rfl) dX7_luck_23 ⟨Nat.zero_le _, Nat.zero_le _⟩) hP5 hD6 hS4 hA (kCtx_nil _) (fun _ => rfl) (fun r3 _ H7 locs7 hw hP7 hD7 hS7 => ?_)
  have hr3 : r_X7_in ((nI xn).toInt64) 0 10 = r3 := (show r3 = r_X7_in ((nI xn).toInt64) 0 10 from hw).symm
  have hP8 : va_P G.1 vwCl ([(h0, .inr (7, cM (upd Z 0 0) q1 q2 q3 q4 q5 q6 q7 q8 q9 q10 q11 sd)), (q4, .inl (G.2.1, 55, .inl pg)), (q5, .inl (G.2.1, 55, .inl tr))]) H7 := hP7
  have hD9 : va_D A ([(h0, .inr (7, cM (upd Z 0 0) q1 q2 q3 q4 q5 q6 q7 q8 q9 q10 q11 sd)), (q4, .inl (G.2.1, 55, .inl pg)), (q5, .inl (G.2.1, 55, .inl tr))]) := hD7
  refine lv_if_ne (x := r3) (tgt := 32) hx hb dX7_luck_26 (by decide) (fun (c4 : ¬ (r3 = 0)) => ?_) (fun (c4 : r3 = 0) => absurd c4 (fun q => hi2 (hr3.trans q)))
  refine lv_iconst (v := 0) hx hb dX7_luck_32 (by decide) ?_
  refine lv_istore (lv' := [(4, .int 0), (0, .ref h0), (1, .int (nI rn)), (2, .int (nI xn)), (3, .int p2)]) hx hb dX7_luck_33 hl (by decide) rfl (fun ls10 hl10 => ?_)
  refine lv_iconst (v := 0) hx hb dX7_luck_35 (by decide) ?_
  refine lv_istore (lv' := [(5, .int 0), (4, .int 0), (0, .ref h0), (1, .int (nI rn)), (2, .int (nI xn)), (3, .int p2)]) hx hb dX7_luck_36 hl10 (by decide) rfl (fun ls11 hl11 => ?_)
  subst hr1
  subst hr3
  have lp1 : ∀ (n1 j1 : Nat) (up_1 : Int32) (Z_1 : Nat → Int32) (tr_1 : Nat → Int32), j1 + n1 = (2 ^ rn) → (hr_1 : r_X7_luck_ok Z pg tr rn xn p2 k40 = l_X7_luck_ok_1_r pg rn xn p2 k40 n1 j1 up_1 Z_1 tr_1) → (hZ_1 : s_X7_luck_ok_Z Z pg tr rn xn k40 = l_X7_luck_ok_1_Z pg rn xn k40 n1 j1 up_1 Z_1 tr_1) → (htr_1 : s_X7_luck_ok_tr Z pg tr rn xn k40 = l_X7_luck_ok_1_tr pg rn xn k40 n1 j1 up_1 Z_1 tr_1) → (hu1 : kBd (1000000 * j1) up_1) → ∀ (H : Heap) (locs : List Loc) (ls : Array Slot), va_P G.1 vwCl ([(h0, .inr (7, cM Z_1 q1 q2 q3 q4 q5 q6 q7 q8 q9 q10 q11 sd)), (q4, .inl (G.2.1, 55, .inl pg)), (q5, .inl (G.2.1, 55, .inl tr_1))]) H → va_D A ([(h0, .inr (7, cM Z_1 q1 q2 q3 q4 q5 q6 q7 q8 q9 q10 q11 sd)), (q4, .inl (G.2.1, 55, .inl pg)), (q5, .inl (G.2.1, 55, .inl tr_1))]) → va_S A s.heap H locs → lv_has ls 7 [(0, .ref h0), (1, .int (nI rn)), (2, .int (nI xn)), (3, .int p2), (4, .int up_1), (5, .int (nI j1))] → W p l e (kr 6) s m args below meth c H locs 0 0 (MQ below (qI G (fun (r : Int32) (u : ((Nat → Int32) × (Nat → Int32))) => r = r_X7_luck_ok Z pg tr rn xn p2 k40 ∧ u.1 = s_X7_luck_ok_Z Z pg tr rn xn k40 ∧ u.2 = s_X7_luck_ok_tr Z pg tr rn xn k40) (fun u => [(h0, .inr (7, cM u.1 q1 q2 q3 q4 q5 q6 q7 q8 q9 q10 q11 sd)), (q4, .inl (G.2.1, 55, .inl pg)), (q5, .inl (G.2.1, 55, .inl u.2))]) A) args s 0 0 A) (F0 m 38 ls []) := by
    intro n1
    induction n1 with
    | zero =>
      intro j1 up_1 Z_1 tr_1 hj1 hr_1 hZ_1 htr_1 hu1 H12 locs12 ls12 hP12 hD12 hS12 hl12
      refine lv_iload hx hb dX7_luck_38 (lv_at hl12 5 rfl) ?_
      refine lv_iconst (v := 1) hx hb dX7_luck_40 (by decide) ?_
      refine lv_iload_n hx hb dX7_luck_41 rfl (lv_at hl12 1 rfl) ?_
      refine lv_ishl hx hb dX7_luck_42 ?_
      refine k_top (y := kShl 1 (nI rn)) rfl ?_
      refine k_top (y := nI (2 ^ rn)) (kshl1 ⟨rn, by omega⟩) ?_
      refine lv_icmp_ge (x := nI j1) (y := nI (2 ^ rn)) (tgt := 143) hx hb dX7_luck_43 (by decide) (fun (c5 : nI (2 ^ rn) ≤ nI j1) => ?_) (fun (c5 : ¬ (nI (2 ^ rn) ≤ nI j1)) => absurd (kle_z rfl hj1) c5)
      refine lv_iload hx hb dX7_luck_143 (lv_at hl12 4 rfl) ?_
      refine lv_bipush (v := 10) hx hb dX7_luck_145 (by decide) ?_
      refine lv_iload_n hx hb dX7_luck_147 rfl (lv_at hl12 1 rfl) ?_
      refine k_calli (kRunS (As := [.int 10, .int (nI rn)]) (rest := [.int up_1]) kx (c_X7_power l G 10 (nI rn)) q_959 q_957 q_36 q_958 nX7_power ⟨Nat.le_of_ble_eq_true rfl, Nat.le_of_ble_eq_true rfl⟩ hK hP12 hD12 (kCtx_nil _) rfl hl12.1 (Nat.le_of_ble_eq_true rfl) dX7_luck_148 ⟨Nat.zero_le _, Nat.zero_le _⟩) hP12 hD12 hS12 hA (kCtx_nil _) (fun _ => rfl) (fun r6 _ H13 locs13 hw hP13 hD13 hS13 => ?_)
      have hr6 : r_X7_power 10 (nI rn) = r6 := (show r6 = r_X7_power 10 (nI rn) from hw).symm
      have hP14 : va_P G.1 vwCl ([(h0, .inr (7, cM Z_1 q1 q2 q3 q4 q5 q6 q7 q8 q9 q10 q11 sd)), (q4, .inl (G.2.1, 55, .inl pg)), (q5, .inl (G.2.1, 55, .inl tr_1))]) H13 := hP13
      have hD15 : va_D A ([(h0, .inr (7, cM Z_1 q1 q2 q3 q4 q5 q6 q7 q8 q9 q10 q11 sd)), (q4, .inl (G.2.1, 55, .inl pg)), (q5, .inl (G.2.1, 55, .inl tr_1))]) := hD13
      have hpw : r6 = nI (10 ^ rn) := hr6.symm.trans (rpow 10 (by omega))
      refine k_top (y := nI (10 ^ rn)) hpw ?_
      refine lv_iload_n hx hb dX7_luck_151 rfl (lv_at hl12 3 rfl) ?_
      refine k_calli (kRunS (As := [.int up_1, .int (nI (10 ^ rn)), .int p2]) (rest := []) kx (c_X7_fraction l G up_1 up_1.toInt.natAbs (10 ^ rn) p2 (fun h => kabs1 h) (fun h => kabs2 h (kBd_min hu1 (by have := kpow2 hrr; omega))) (kBd_abs hu1 (by have := kpow2 hrr; omega)) ((kpow10 hrr).1) ((kpow10 hrr).2)) q_947 q_945 q_36 q_946 nX7_fraction ⟨Nat.le_of_ble_eq_true rfl, Nat.le_of_ble_eq_true rfl⟩ hK hP14 hD15 (kCtx_nil _) rfl hl12.1 (Nat.le_of_ble_eq_true rfl) dX7_luck_152 ⟨Nat.zero_le _, Nat.zero_le _⟩) hP14 hD15 hS13 hA (kCtx_nil _) (fun _ => rfl) (fun r7 _ H16 locs16 hw hP16 hD16 hS16 => ?_)
      have hr7 : r_X7_fraction up_1 up_1.toInt.natAbs (10 ^ rn) p2 = r7 := (show r7 = r_X7_fraction up_1 up_1.toInt.natAbs (10 ^ rn) p2 from hw).symm
      have hP17 : va_P G.1 vwCl ([(h0, .inr (7, cM Z_1 q1 q2 q3 q4 q5 q6 q7 q8 q9 q10 q11 sd)), (q4, .inl (G.2.1, 55, .inl pg)), (q5, .inl (G.2.1, 55, .inl tr_1))]) H16 := hP16
      have hD18 : va_D A ([(h0, .inr (7, cM Z_1 q1 q2 q3 q4 q5 q6 q7 q8 q9 q10 q11 sd)), (q4, .inl (G.2.1, 55, .inl pg)), (q5, .inl (G.2.1, 55, .inl tr_1))]) := hD16
      have er : r_X7_luck_ok Z pg tr rn xn p2 k40 = r7 := by rw [hr_1, l_X7_luck_ok_1_r]; (try rw [hr6]); (try rw [hr7]); first | done | rfl
      have e0 : s_X7_luck_ok_Z Z pg tr rn xn k40 = Z_1 := by rw [hZ_1, l_X7_luck_ok_1_Z]; (try rw [hr6]); (try rw [hr7]); first | done | rfl
      have e1 : s_X7_luck_ok_tr Z pg tr rn xn k40 = tr_1 := by rw [htr_1, l_X7_luck_ok_1_tr]; (try rw [hr6]); (try rw [hr7]); first | done | rfl
      exact k_iret kx hK hP17 hD18 hS16 (u := (Z_1, tr_1)) rfl ⟨er.symm, e0.symm, e1.symm⟩ dX7_luck_155
    | succ n1 ih1 =>
      intro j1 up_1 Z_1 tr_1 hj1 hr_1 hZ_1 htr_1 hu1 H12 locs12 ls12 hP12 hD12 hS12 hl12
      refine lv_iload hx hb dX7_luck_38 (lv_at hl12 5 rfl) ?_
      refine lv_iconst (v := 1) hx hb dX7_luck_40 (by decide) ?_
      refine lv_iload_n hx hb dX7_luck_41 rfl (lv_at hl12 1 rfl) ?_
      refine lv_ishl hx hb dX7_luck_42 ?_
      refine k_top (y := kShl 1 (nI rn)) rfl ?_
      refine k_top (y := nI (2 ^ rn)) (kshl1 ⟨rn, by omega⟩) ?_
      refine lv_icmp_ge (x := nI j1) (y := nI (2 ^ rn)) (tgt := 143) hx hb dX7_luck_43 (by decide) (fun (c8 : nI (2 ^ rn) ≤ nI j1) => absurd c8 (kle_s rfl hj1 (by have := kpow2 hrr; omega))) (fun (c8 : ¬ (nI (2 ^ rn) ≤ nI j1)) => ?_)
      refine lv_aload_n hx hb dX7_luck_46 rfl (lv_at hl12 0 rfl) ?_
      refine k_callv (kRunV (As := []) (rest := []) kx (c_X7_layTrial l G Z_1 sd h0 q1 q2 q3 q4 q5 q6 q7 q8 q9 q10 q11 pg tr_1) q_774 q_771 q_36 q_773 q_16 nX7_layTrial ⟨Nat.le_of_ble_eq_true rfl, Nat.le_of_ble_eq_true rfl⟩ hK hP12 hD12 (kCtx_all _) 0 7 rfl rfl rfl rfl hl12.1 (Nat.le_of_ble_eq_true rfl) dX7_luck_47 ⟨Nat.zero_le _, Nat.zero_le _⟩) hP12 hD12 hS12 hA (kCtx_all _) (fun _ => rfl) (fun _ H19 locs19 hw hP19 hD19 hS19 => ?_)
      have hP20 : va_P G.1 vwCl ([(h0, .inr (7, cM (upd (upd (upd Z_1 18 (-9)) 20 0) 21 6) q1 q2 q3 q4 q5 q6 q7 q8 q9 q10 q11 sd)), (q4, .inl (G.2.1, 55, .inl pg)), (q5, .inl (G.2.1, 55, .inl (s_X7_lay_t pg tr_1)))]) H19 := hP19
      have hD21 : va_D A ([(h0, .inr (7, cM (upd (upd (upd Z_1 18 (-9)) 20 0) 21 6) q1 q2 q3 q4 q5 q6 q7 q8 q9 q10 q11 sd)), (q4, .inl (G.2.1, 55, .inl pg)), (q5, .inl (G.2.1, 55, .inl (s_X7_lay_t pg tr_1)))]) := hD19
      refine lv_aload_n hx hb dX7_luck_50 rfl (lv_at hl12 0 rfl) ?_
      refine lv_iload hx hb dX7_luck_51 (lv_at hl12 5 rfl) ?_
      refine va_put (ci := 7) (v := .int (nI j1)) (ty := .int) (C := RX7) (T := TX7) (N := 22) hx hb ht inX7 tyX7 tyX7_ok nmX7 hown hK.1 hP20 hD21 hS19 0 rfl rfl 20 (by decide) (ht _ q_686) (fun _ h9 => h9) rfl (by decide +kernel) rfl rfl (Nat.le_of_ble_eq_true rfl) dX7_luck_53 (fun H22 locs22 hP22 hD22 hS22 => ?_)
      have hP23 : va_P G.1 vwCl ([(h0, .inr (7, cM (upd (upd (upd (upd Z_1 18 (-9)) 20 0) 21 6) 20 (nI j1)) q1 q2 q3 q4 q5 q6 q7 q8 q9 q10 q11 sd)), (q4, .inl (G.2.1, 55, .inl pg)), (q5, .inl (G.2.1, 55, .inl (s_X7_lay_t pg tr_1)))]) H22 := hP22
      have hD24 : va_D A ([(h0, .inr (7, cM (upd (upd (upd (upd Z_1 18 (-9)) 20 0) 21 6) 20 (nI j1)) q1 q2 q3 q4 q5 q6 q7 q8 q9 q10 q11 sd)), (q4, .inl (G.2.1, 55, .inl pg)), (q5, .inl (G.2.1, 55, .inl (s_X7_lay_t pg tr_1)))]) := hD22
      refine lv_aload_n hx hb dX7_luck_56 rfl (lv_at hl12 0 rfl) ?_
      refine lv_iconst (v := 0) hx hb dX7_luck_57 (by decide) ?_
      refine va_put (ci := 7) (v := .int 0) (ty := .int) (C := RX7) (T := TX7) (N := 22) hx hb ht inX7 tyX7 tyX7_ok nmX7 hown hK.1 hP23 hD24 hS22 0 rfl rfl 21 (by decide) (ht _ q_687) (fun _ h9 => h9) rfl (by decide +kernel) rfl rfl (Nat.le_of_ble_eq_true rfl) dX7_luck_58 (fun H25 locs25 hP25 hD25 hS25 => ?_)
      have hP26 : va_P G.1 vwCl ([(h0, .inr (7, cM (upd (upd (upd (upd (upd Z_1 18 (-9)) 20 0) 21 6) 20 (nI j1)) 21 0) q1 q2 q3 q4 q5 q6 q7 q8 q9 q10 q11 sd)), (q4, .inl (G.2.1, 55, .inl pg)), (q5, .inl (G.2.1, 55, .inl (s_X7_lay_t pg tr_1)))]) H25 := hP25
      have hD27 : va_D A ([(h0, .inr (7, cM (upd (upd (upd (upd (upd Z_1 18 (-9)) 20 0) 21 6) 20 (nI j1)) 21 0) q1 q2 q3 q4 q5 q6 q7 q8 q9 q10 q11 sd)), (q4, .inl (G.2.1, 55, .inl pg)), (q5, .inl (G.2.1, 55, .inl (s_X7_lay_t pg tr_1)))]) := hD25
      refine lv_aload_n hx hb dX7_luck_61 rfl (lv_at hl12 0 rfl) ?_
      refine lv_aload_n hx hb dX7_luck_62 rfl (lv_at hl12 0 rfl) ?_
      refine va_get (ci := 7) (v := .ref q5) (C := RX7) (T := TX7) (N := 22) hx hb ht inX7 hown hK.1 hP26 0 rfl rfl 8 (by decide) (ht _ q_674) (fun _ h9 => h9) rfl dX7_luck_63 ?_
      refine lv_bipush (v := 40) hx hb dX7_luck_66 (by decide) ?_
      refine k_top (y := k40) h40.symm ?_
      refine k_callv (kRunV (As := [.ref q5, .int k40]) (rest := []) kx (c_X7_goFor l G (upd (upd (upd (upd (upd Z_1 18 (-9)) 20 0) 21 6) 20 (nI j1)) 21 0) sd h0 q1 q2 q3 q4 q5 q6 q7 q8 q9 q10 q11 (s_X7_lay_t pg tr_1) q5 k40) q_778 q_775 q_36 q_777 q_17 nX7_goFor ⟨Nat.le_of_ble_eq_true rfl, Nat.le_of_ble_eq_true rfl⟩ hK hP26 hD27 (kCtx_places _ _ [0, 2] rfl rfl) 0 7 rfl rfl rfl rfl hl12.1 (Nat.le_of_ble_eq_true rfl) dX7_luck_68 ⟨Nat.zero_le _, Nat.zero_le _⟩) hP26 hD27 hS25 hA (kCtx_places _ _ [0, 2] rfl rfl) (fun _ => rfl) (fun u H28 locs28 hw hP28 hD28 hS28 => ?_)
      obtain ⟨F11, F12⟩ := u
      obtain ⟨hF11, hF12⟩ := hw
      have hF11 : s_X7_goFor_Z (upd (upd (upd (upd (upd Z_1 18 (-9)) 20 0) 21 6) 20 (nI j1)) 21 0) (s_X7_lay_t pg tr_1) k40 = F11 := (show F11 = s_X7_goFor_Z (upd (upd (upd (upd (upd Z_1 18 (-9)) 20 0) 21 6) 20 (nI j1)) 21 0) (s_X7_lay_t pg tr_1) k40 from hF11).symm
      have hF12 : s_X7_goFor_f (upd (upd (upd (upd (upd Z_1 18 (-9)) 20 0) 21 6) 20 (nI j1)) 21 0) (s_X7_lay_t pg tr_1) k40 = F12 := (show F12 = s_X7_goFor_f (upd (upd (upd (upd (upd Z_1 18 (-9)) 20 0) 21 6) 20 (nI j1)) 21 0) (s_X7_lay_t pg tr_1) k40 from hF12).symm
      have hP29 : va_P G.1 vwCl ([(h0, .inr (7, cM F11 q1 q2 q3 q4 q5 q6 q7 q8 q9 q10 q11 sd)), (q4, .inl (G.2.1, 55, .inl pg)), (q5, .inl (G.2.1, 55, .inl F12))]) H28 := hP28
      have hD30 : va_D A ([(h0, .inr (7, cM F11 q1 q2 q3 q4 q5 q6 q7 q8 q9 q10 q11 sd)), (q4, .inl (G.2.1, 55, .inl pg)), (q5, .inl (G.2.1, 55, .inl F12))]) := hD28
      refine lv_aload_n hx hb dX7_luck_71 rfl (lv_at hl12 0 rfl) ?_
      refine va_get (ci := 7) (v := .ref q5) (C := RX7) (T := TX7) (N := 22) hx hb ht inX7 hown hK.1 hP29 0 rfl rfl 8 (by decide) (ht _ q_674) (fun _ h9 => h9) rfl dX7_luck_72 ?_
      refine lv_iconst (v := 5) hx hb dX7_luck_75 (by decide) ?_
      refine k_iald (v := (F12 5)) kx hK hP29 2 rfl 5 rfl (by decide) (by decide) rfl dX7_luck_76 ?_
      refine lv_iconst (v := 2) hx hb dX7_luck_77 (by decide) ?_
      refine lv_icmp_ne (x := F12 5) (y := 2) (tgt := 96) hx hb dX7_luck_78 (by decide) (fun (c13 : ¬ (F12 5 = 2)) => ?_) (fun (c13 : F12 5 = 2) => ?_)
      · skip
        refine lv_iconst (v := 0) hx hb dX7_luck_96 (by decide) ?_
        refine lv_istore (lv' := [(6, .int 0), (0, .ref h0), (1, .int (nI rn)), (2, .int (nI xn)), (3, .int p2), (4, .int up_1), (5, .int (nI j1))]) hx hb dX7_luck_97 hl12 (by decide) rfl (fun ls31 hl31 => ?_)
        refine lv_iload hx hb dX7_luck_99 (lv_at hl31 5 rfl) ?_
        refine lv_iload hx hb dX7_luck_101 (lv_at hl31 0 rfl) ?_
        refine lv_if_eq (x := 0) (tgt := 133) hx hb dX7_luck_103 (by decide) (fun (c14 : 0 = 0) => ?_) (fun (c14 : ¬ (0 = 0)) => absurd (by decide) c14)
        refine lv_iconst (v := 0) hx hb dX7_luck_133 (by decide) ?_
        refine lv_iadd hx hb dX7_luck_134 ?_
        refine lv_istore (lv' := [(4, .int (up_1 + 0)), (6, .int 0), (0, .ref h0), (1, .int (nI rn)), (2, .int (nI xn)), (3, .int p2), (5, .int (nI j1))]) hx hb dX7_luck_135 hl31 (by decide) rfl (fun ls32 hl32 => ?_)
        refine lv_iinc (v := nI (j1 + 1)) (lv' := [(5, .int (nI (j1 + 1))), (4, .int (up_1 + 0)), (6, .int 0), (0, .ref h0), (1, .int (nI rn)), (2, .int (nI xn)), (3, .int p2)]) hx hb dX7_luck_137 hl32 (k := 6) rfl (nI_1 j1) (by decide) rfl (fun ls33 hl33 => ?_)
        refine lv_goto (tgt := 38) hx hb dX7_luck_140 (by decide) ?_
        subst hF11
        subst hF12
        have gr : r_X7_luck_ok Z pg tr rn xn p2 k40 = l_X7_luck_ok_1_r pg rn xn p2 k40 n1 (j1 + 1) (up_1 + 0) (s_X7_goFor_Z (upd (upd (upd (upd (upd Z_1 18 (-9)) 20 0) 21 6) 20 (nI j1)) 21 0) (s_X7_lay_t pg tr_1) k40) (s_X7_goFor_f (upd (upd (upd (upd (upd Z_1 18 (-9)) 20 0) 21 6) 20 (nI j1)) 21 0) (s_X7_lay_t pg tr_1) k40) := by rw [hr_1, l_X7_luck_ok_1_r, if_neg c13]
        have gZ : s_X7_luck_ok_Z Z pg tr rn xn k40 = l_X7_luck_ok_1_Z pg rn xn k40 n1 (j1 + 1) (up_1 + 0) (s_X7_goFor_Z (upd (upd (upd (upd (upd Z_1 18 (-9)) 20 0) 21 6) 20 (nI j1)) 21 0) (s_X7_lay_t pg tr_1) k40) (s_X7_goFor_f (upd (upd (upd (upd (upd Z_1 18 (-9)) 20 0) 21 6) 20 (nI j1)) 21 0) (s_X7_lay_t pg tr_1) k40) := by rw [hZ_1, l_X7_luck_ok_1_Z, if_neg c13]
        have gtr : s_X7_luck_ok_tr Z pg tr rn xn k40 = l_X7_luck_ok_1_tr pg rn xn k40 n1 (j1 + 1) (up_1 + 0) (s_X7_goFor_Z (upd (upd (upd (upd (upd Z_1 18 (-9)) 20 0) 21 6) 20 (nI j1)) 21 0) (s_X7_lay_t pg tr_1) k40) (s_X7_goFor_f (upd (upd (upd (upd (upd Z_1 18 (-9)) 20 0) 21 6) 20 (nI j1)) 21 0) (s_X7_lay_t pg tr_1) k40) := by rw [htr_1, l_X7_luck_ok_1_tr, if_neg c13]
        exact ih1 (j1 + 1) (up_1 + 0) (s_X7_goFor_Z (upd (upd (upd (upd (upd Z_1 18 (-9)) 20 0) 21 6) 20 (nI j1)) 21 0) (s_X7_lay_t pg tr_1) k40) (s_X7_goFor_f (upd (upd (upd (upd (upd Z_1 18 (-9)) 20 0) 21 6) 20 (nI j1)) 21 0) (s_X7_lay_t pg tr_1) k40) (by omega) gr gZ gtr (kluck0 hu1) _ _ _ hP29 hD30 hS28 (lv_sub hl33 [3, 4, 5, 6, 1, 0] rfl)
      · skip
        refine lv_aload_n hx hb dX7_luck_81 rfl (lv_at hl12 0 rfl) ?_
        refine va_get (ci := 7) (v := .ref q5) (C := RX7) (T := TX7) (N := 22) hx hb ht inX7 hown hK.1 hP29 0 rfl rfl 8 (by decide) (ht _ q_674) (fun _ h9 => h9) rfl dX7_luck_82 ?_
        refine lv_bipush (v := 21) hx hb dX7_luck_85 (by decide) ?_
        refine k_iald (v := (F12 21)) kx hK hP29 2 rfl 21 rfl (by decide) (by decide) rfl dX7_luck_87 ?_
        refine lv_iconst (v := 2) hx hb dX7_luck_88 (by decide) ?_
        refine lv_icmp_ne (x := F12 21) (y := 2) (tgt := 96) hx hb dX7_luck_89 (by decide) (fun (c15 : ¬ (F12 21 = 2)) => ?_) (fun (c15 : F12 21 = 2) => ?_)
        · skip
          refine lv_iconst (v := 0) hx hb dX7_luck_96 (by decide) ?_
          refine lv_istore (lv' := [(6, .int 0), (0, .ref h0), (1, .int (nI rn)), (2, .int (nI xn)), (3, .int p2), (4, .int up_1), (5, .int (nI j1))]) hx hb dX7_luck_97 hl12 (by decide) rfl (fun ls34 hl34 => ?_)
          refine lv_iload hx hb dX7_luck_99 (lv_at hl34 5 rfl) ?_
          refine lv_iload hx hb dX7_luck_101 (lv_at hl34 0 rfl) ?_
          refine lv_if_eq (x := 0) (tgt := 133) hx hb dX7_luck_103 (by decide) (fun (c16 : 0 = 0) => ?_) (fun (c16 : ¬ (0 = 0)) => absurd (by decide) c16)
          refine lv_iconst (v := 0) hx hb dX7_luck_133 (by decide) ?_
          refine lv_iadd hx hb dX7_luck_134 ?_
          refine lv_istore (lv' := [(4, .int (up_1 + 0)), (6, .int 0), (0, .ref h0), (1, .int (nI rn)), (2, .int (nI xn)), (3, .int p2), (5, .int (nI j1))]) hx hb dX7_luck_135 hl34 (by decide) rfl (fun ls35 hl35 => ?_)
          refine lv_iinc (v := nI (j1 + 1)) (lv' := [(5, .int (nI (j1 + 1))), (4, .int (up_1 + 0)), (6, .int 0), (0, .ref h0), (1, .int (nI rn)), (2, .int (nI xn)), (3, .int p2)]) hx hb dX7_luck_137 hl35 (k := 6) rfl (nI_1 j1) (by decide) rfl (fun ls36 hl36 => ?_)
          refine lv_goto (tgt := 38) hx hb dX7_luck_140 (by decide) ?_
          subst hF11
          subst hF12
          have gr : r_X7_luck_ok Z pg tr rn xn p2 k40 = l_X7_luck_ok_1_r pg rn xn p2 k40 n1 (j1 + 1) (up_1 + 0) (s_X7_goFor_Z (upd (upd (upd (upd (upd Z_1 18 (-9)) 20 0) 21 6) 20 (nI j1)) 21 0) (s_X7_lay_t pg tr_1) k40) (s_X7_goFor_f (upd (upd (upd (upd (upd Z_1 18 (-9)) 20 0) 21 6) 20 (nI j1)) 21 0) (s_X7_lay_t pg tr_1) k40) := by rw [hr_1, l_X7_luck_ok_1_r, if_pos c13, if_neg c15]
          have gZ : s_X7_luck_ok_Z Z pg tr rn xn k40 = l_X7_luck_ok_1_Z pg rn xn k40 n1 (j1 + 1) (up_1 + 0) (s_X7_goFor_Z (upd (upd (upd (upd (upd Z_1 18 (-9)) 20 0) 21 6) 20 (nI j1)) 21 0) (s_X7_lay_t pg tr_1) k40) (s_X7_goFor_f (upd (upd (upd (upd (upd Z_1 18 (-9)) 20 0) 21 6) 20 (nI j1)) 21 0) (s_X7_lay_t pg tr_1) k40) := by rw [hZ_1, l_X7_luck_ok_1_Z, if_pos c13, if_neg c15]
          have gtr : s_X7_luck_ok_tr Z pg tr rn xn k40 = l_X7_luck_ok_1_tr pg rn xn k40 n1 (j1 + 1) (up_1 + 0) (s_X7_goFor_Z (upd (upd (upd (upd (upd Z_1 18 (-9)) 20 0) 21 6) 20 (nI j1)) 21 0) (s_X7_lay_t pg tr_1) k40) (s_X7_goFor_f (upd (upd (upd (upd (upd Z_1 18 (-9)) 20 0) 21 6) 20 (nI j1)) 21 0) (s_X7_lay_t pg tr_1) k40) := by rw [htr_1, l_X7_luck_ok_1_tr, if_pos c13, if_neg c15]
          exact ih1 (j1 + 1) (up_1 + 0) (s_X7_goFor_Z (upd (upd (upd (upd (upd Z_1 18 (-9)) 20 0) 21 6) 20 (nI j1)) 21 0) (s_X7_lay_t pg tr_1) k40) (s_X7_goFor_f (upd (upd (upd (upd (upd Z_1 18 (-9)) 20 0) 21 6) 20 (nI j1)) 21 0) (s_X7_lay_t pg tr_1) k40) (by omega) gr gZ gtr (kluck0 hu1) _ _ _ hP29 hD30 hS28 (lv_sub hl36 [3, 4, 5, 6, 1, 0] rfl)
        · skip
          refine lv_iconst (v := 1) hx hb dX7_luck_92 (by decide) ?_
          refine lv_goto (tgt := 97) hx hb dX7_luck_93 (by decide) ?_
          refine lv_istore (lv' := [(6, .int 1), (0, .ref h0), (1, .int (nI rn)), (2, .int (nI xn)), (3, .int p2), (4, .int up_1), (5, .int (nI j1))]) hx hb dX7_luck_97 hl12 (by decide) rfl (fun ls37 hl37 => ?_)
          refine lv_iload hx hb dX7_luck_99 (lv_at hl37 5 rfl) ?_
          refine lv_iload hx hb dX7_luck_101 (lv_at hl37 0 rfl) ?_
          refine lv_if_eq (x := 1) (tgt := 133) hx hb dX7_luck_103 (by decide) (fun (c17 : 1 = 0) => absurd c17 (by decide)) (fun (c17 : ¬ (1 = 0)) => ?_)
          refine lv_iload_n hx hb dX7_luck_106 rfl (lv_at hl37 3 rfl) ?_
          refine lv_iload hx hb dX7_luck_107 (lv_at hl37 6 rfl) ?_
          refine k_calli (kRunS (As := [.int (nI j1)]) (rest := [.int (nI xn), .int up_1]) kx (c_X7_ones l G (nI j1)) q_937 q_935 q_36 q_936 nX7_ones ⟨Nat.le_of_ble_eq_true rfl, Nat.le_of_ble_eq_true rfl⟩ hK hP29 hD30 (kCtx_nil _) rfl hl37.1 (Nat.le_of_ble_eq_true rfl) dX7_luck_109 ⟨Nat.zero_le _, Nat.zero_le _⟩) hP29 hD30 hS28 hA (kCtx_nil _) (fun _ => rfl) (fun r18 _ H38 locs38 hw hP38 hD38 hS38 => ?_)
          have hr18 : r_X7_ones (nI j1) = r18 := (show r18 = r_X7_ones (nI j1) from hw).symm
          have hP39 : va_P G.1 vwCl ([(h0, .inr (7, cM F11 q1 q2 q3 q4 q5 q6 q7 q8 q9 q10 q11 sd)), (q4, .inl (G.2.1, 55, .inl pg)), (q5, .inl (G.2.1, 55, .inl F12))]) H38 := hP38
          have hD40 : va_D A ([(h0, .inr (7, cM F11 q1 q2 q3 q4 q5 q6 q7 q8 q9 q10 q11 sd)), (q4, .inl (G.2.1, 55, .inl pg)), (q5, .inl (G.2.1, 55, .inl F12))]) := hD38
          refine k_calli (kRunS (As := [.int (nI xn), .int r18]) (rest := [.int up_1]) kx (c_X7_power l G (nI xn) r18) q_959 q_957 q_36 q_958 nX7_power ⟨Nat.le_of_ble_eq_true rfl, Nat.le_of_ble_eq_true rfl⟩ hK hP39 hD40 (kCtx_nil _) rfl hl37.1 (Nat.le_of_ble_eq_true rfl) dX7_luck_112 ⟨Nat.zero_le _, Nat.zero_le _⟩) hP39 hD40 hS38 hA (kCtx_nil _) (fun _ => rfl) (fun r19 _ H41 locs41 hw hP41 hD41 hS41 => ?_)
          have hr19 : r_X7_power (nI xn) r18 = r19 := (show r19 = r_X7_power (nI xn) r18 from hw).symm
          have hP42 : va_P G.1 vwCl ([(h0, .inr (7, cM F11 q1 q2 q3 q4 q5 q6 q7 q8 q9 q10 q11 sd)), (q4, .inl (G.2.1, 55, .inl pg)), (q5, .inl (G.2.1, 55, .inl F12))]) H41 := hP41
          have hD43 : va_D A ([(h0, .inr (7, cM F11 q1 q2 q3 q4 q5 q6 q7 q8 q9 q10 q11 sd)), (q4, .inl (G.2.1, 55, .inl pg)), (q5, .inl (G.2.1, 55, .inl F12))]) := hD41
          refine lv_bipush (v := 10) hx hb dX7_luck_115 (by decide) ?_
          refine lv_iload_n hx hb dX7_luck_117 rfl (lv_at hl37 3 rfl) ?_
          refine lv_isub hx hb dX7_luck_118 ?_
          refine lv_iload_n hx hb dX7_luck_119 rfl (lv_at hl37 2 rfl) ?_
          refine lv_iload hx hb dX7_luck_120 (lv_at hl37 6 rfl) ?_
          refine k_calli (kRunS (As := [.int (nI j1)]) (rest := [.int (nI rn), .int (10 - (nI xn)), .int r19, .int up_1]) kx (c_X7_ones l G (nI j1)) q_937 q_935 q_36 q_936 nX7_ones ⟨Nat.le_of_ble_eq_true rfl, Nat.le_of_ble_eq_true rfl⟩ hK hP42 hD43 (kCtx_nil _) rfl hl37.1 (Nat.le_of_ble_eq_true rfl) dX7_luck_122 ⟨Nat.zero_le _, Nat.zero_le _⟩) hP42 hD43 hS41 hA (kCtx_nil _) (fun _ => rfl) (fun r20 _ H44 locs44 hw hP44 hD44 hS44 => ?_)
          have hr20 : r_X7_ones (nI j1) = r20 := (show r20 = r_X7_ones (nI j1) from hw).symm
          have heq : r18 = r20 := hr18.symm.trans hr20
          subst heq
          have hP45 : va_P G.1 vwCl ([(h0, .inr (7, cM F11 q1 q2 q3 q4 q5 q6 q7 q8 q9 q10 q11 sd)), (q4, .inl (G.2.1, 55, .inl pg)), (q5, .inl (G.2.1, 55, .inl F12))]) H44 := hP44
          have hD46 : va_D A ([(h0, .inr (7, cM F11 q1 q2 q3 q4 q5 q6 q7 q8 q9 q10 q11 sd)), (q4, .inl (G.2.1, 55, .inl pg)), (q5, .inl (G.2.1, 55, .inl F12))]) := hD44
          refine lv_isub hx hb dX7_luck_125 ?_
          refine k_calli (kRunS (As := [.int (10 - (nI xn)), .int ((nI rn) - r18)]) (rest := [.int r19, .int up_1]) kx (c_X7_power l G (10 - (nI xn)) ((nI rn) - r18)) q_959 q_957 q_36 q_958 nX7_power ⟨Nat.le_of_ble_eq_true rfl, Nat.le_of_ble_eq_true rfl⟩ hK hP45 hD46 (kCtx_nil _) rfl hl37.1 (Nat.le_of_ble_eq_true rfl) dX7_luck_126 ⟨Nat.zero_le _, Nat.zero_le _⟩) hP45 hD46 hS44 hA (kCtx_nil _) (fun _ => rfl) (fun r21 _ H47 locs47 hw hP47 hD47 hS47 => ?_)
          have hr21 : r_X7_power (10 - (nI xn)) ((nI rn) - r18) = r21 := (show r21 = r_X7_power (10 - (nI xn)) ((nI rn) - r18) from hw).symm
          have hP48 : va_P G.1 vwCl ([(h0, .inr (7, cM F11 q1 q2 q3 q4 q5 q6 q7 q8 q9 q10 q11 sd)), (q4, .inl (G.2.1, 55, .inl pg)), (q5, .inl (G.2.1, 55, .inl F12))]) H47 := hP47
          have hD49 : va_D A ([(h0, .inr (7, cM F11 q1 q2 q3 q4 q5 q6 q7 q8 q9 q10 q11 sd)), (q4, .inl (G.2.1, 55, .inl pg)), (q5, .inl (G.2.1, 55, .inl F12))]) := hD47
          refine lv_imul hx hb dX7_luck_129 ?_
          refine lv_goto (tgt := 134) hx hb dX7_luck_130 (by decide) ?_
          refine lv_iadd hx hb dX7_luck_134 ?_
          refine lv_istore (lv' := [(4, .int (up_1 + (r19 * r21))), (6, .int 1), (0, .ref h0), (1, .int (nI rn)), (2, .int (nI xn)), (3, .int p2), (5, .int (nI j1))]) hx hb dX7_luck_135 hl37 (by decide) rfl (fun ls50 hl50 => ?_)
          refine lv_iinc (v := nI (j1 + 1)) (lv' := [(5, .int (nI (j1 + 1))), (4, .int (up_1 + (r19 * r21))), (6, .int 1), (0, .ref h0), (1, .int (nI rn)), (2, .int (nI xn)), (3, .int p2)]) hx hb dX7_luck_137 hl50 (k := 6) rfl (nI_1 j1) (by decide) rfl (fun ls51 hl51 => ?_)
          refine lv_goto (tgt := 38) hx hb dX7_luck_140 (by decide) ?_
          subst hF11
          subst hF12
          subst hr18
          subst hr19
          subst hr21
          have gr : r_X7_luck_ok Z pg tr rn xn p2 k40 = l_X7_luck_ok_1_r pg rn xn p2 k40 n1 (j1 + 1) (up_1 + ((r_X7_power (nI xn) (r_X7_ones (nI j1))) * (r_X7_power (10 - (nI xn)) ((nI rn) - (r_X7_ones (nI j1)))))) (s_X7_goFor_Z (upd (upd (upd (upd (upd Z_1 18 (-9)) 20 0) 21 6) 20 (nI j1)) 21 0) (s_X7_lay_t pg tr_1) k40) (s_X7_goFor_f (upd (upd (upd (upd (upd Z_1 18 (-9)) 20 0) 21 6) 20 (nI j1)) 21 0) (s_X7_lay_t pg tr_1) k40) := by rw [hr_1, l_X7_luck_ok_1_r, if_pos c13, if_pos c15]
          have gZ : s_X7_luck_ok_Z Z pg tr rn xn k40 = l_X7_luck_ok_1_Z pg rn xn k40 n1 (j1 + 1) (up_1 + ((r_X7_power (nI xn) (r_X7_ones (nI j1))) * (r_X7_power (10 - (nI xn)) ((nI rn) - (r_X7_ones (nI j1)))))) (s_X7_goFor_Z (upd (upd (upd (upd (upd Z_1 18 (-9)) 20 0) 21 6) 20 (nI j1)) 21 0) (s_X7_lay_t pg tr_1) k40) (s_X7_goFor_f (upd (upd (upd (upd (upd Z_1 18 (-9)) 20 0) 21 6) 20 (nI j1)) 21 0) (s_X7_lay_t pg tr_1) k40) := by rw [hZ_1, l_X7_luck_ok_1_Z, if_pos c13, if_pos c15]
          have gtr : s_X7_luck_ok_tr Z pg tr rn xn k40 = l_X7_luck_ok_1_tr pg rn xn k40 n1 (j1 + 1) (up_1 + ((r_X7_power (nI xn) (r_X7_ones (nI j1))) * (r_X7_power (10 - (nI xn)) ((nI rn) - (r_X7_ones (nI j1)))))) (s_X7_goFor_Z (upd (upd (upd (upd (upd Z_1 18 (-9)) 20 0) 21 6) 20 (nI j1)) 21 0) (s_X7_lay_t pg tr_1) k40) (s_X7_goFor_f (upd (upd (upd (upd (upd Z_1 18 (-9)) 20 0) 21 6) 20 (nI j1)) 21 0) (s_X7_lay_t pg tr_1) k40) := by rw [htr_1, l_X7_luck_ok_1_tr, if_pos c13, if_pos c15]
          exact ih1 (j1 + 1) (up_1 + ((r_X7_power (nI xn) (r_X7_ones (nI j1))) * (r_X7_power (10 - (nI xn)) ((nI rn) - (r_X7_ones (nI j1)))))) (s_X7_goFor_Z (upd (upd (upd (upd (upd Z_1 18 (-9)) 20 0) 21 6) 20 (nI j1)) 21 0) (s_X7_lay_t pg tr_1) k40) (s_X7_goFor_f (upd (upd (upd (upd (upd Z_1 18 (-9)) 20 0) 21 6) 20 (nI j1)) 21 0) (s_X7_lay_t pg tr_1) k40) (by omega) gr gZ gtr (kluck hrr hxx (by omega) hu1) _ _ _ hP48 hD49 hS47 (lv_sub hl51 [3, 4, 5, 6, 1, 0] rfl)
  have gr : r_X7_luck_ok Z pg tr rn xn p2 k40 = l_X7_luck_ok_1_r pg rn xn p2 k40 (2 ^ rn) 0 0 (upd Z 0 0) tr := by rw [r_X7_luck_ok]
  have gZ : s_X7_luck_ok_Z Z pg tr rn xn k40 = l_X7_luck_ok_1_Z pg rn xn k40 (2 ^ rn) 0 0 (upd Z 0 0) tr := by rw [s_X7_luck_ok_Z]
  have gtr : s_X7_luck_ok_tr Z pg tr rn xn k40 = l_X7_luck_ok_1_tr pg rn xn k40 (2 ^ rn) 0 0 (upd Z 0 0) tr := by rw [s_X7_luck_ok_tr]
  exact lp1 (2 ^ rn) 0 0 (upd Z 0 0) tr (by omega) gr gZ gtr (kBd_le kBd_0 (by omega)) _ _ _ hP8 hD9 hS7 (lv_sub hl11 [2, 3, 4, 5, 1, 0] rfl)

def r_X7_luck_x (p0 : Int32) : Int32 := if (r_X7_in p0.toInt64 0 6) = 0 then (-2) else (-2)
def s_X7_luck_x_Z (Z : Nat → Int32) (p0 : Int32) : Nat → Int32 := if (r_X7_in p0.toInt64 0 6) = 0 then (upd Z 0 0) else upd Z 0 0
set_option maxHeartbeats 4000000 in
set_option maxRecDepth 100000 in
theorem c_X7_luck_x (l : Launch) (G : kG) (Z : Nat → Int32) (sd : Int64) (h0 : Nat) (q1 : Nat) (q2 : Nat) (q3 : Nat) (q4 : Nat) (q5 : Nat) (q6 : Nat) (q7 : Nat) (q8 : Nat) (q9 : Nat) (q10 : Nat) (q11 : Nat) (p0 : Int32) (p1 : Int32) (p2 : Int32) (hx9 : r_X7_in p0.toInt64 0 6 = 0 ∨ r_X7_in p1.toInt64 0 10 = 0) : cG l G yX7_luck cX7_luck 7 (some .int) 1 [.ref h0, .int p0, .int p1, .int p2] ([(h0, .inr (7, cM Z q1 q2 q3 q4 q5 q6 q7 q8 q9 q10 q11 sd))]) (qI G (fun (r : Int32) (u : (Nat → Int32)) => r = r_X7_luck_x p0 ∧ u = s_X7_luck_x_Z Z p0) (fun u => [(h0, .inr (7, cM u q1 q2 q3 q4 q5 q6 q7 q8 q9 q10 q11 sd))])) := by
  refine kintro (by decide) (Nat.le_of_ble_eq_true rfl) ?_
  intro p e s m args below meth c A ls kx hK hP hD hS hA hl
  have kx : kX p s m args meth c cX7_luck 7 (some .int) RX7 := kx
  have hx := kx.1
  have hb := kx.2.1
  have hown := kx.2.2.2.2.1
  have ht := kx.2.2.2.2.2.2
  have hl : lv_has ls 7 [(0, .ref h0), (1, .int p0), (2, .int p1), (3, .int p2)] := hl
  refine lv_aload_n hx hb dX7_luck_0 rfl (lv_at hl 0 rfl) ?_
  refine lv_iconst (v := 0) hx hb dX7_luck_1 (by decide) ?_
  refine va_put (ci := 7) (v := .int 0) (ty := .int) (C := RX7) (T := TX7) (N := 22) hx hb ht inX7 tyX7 tyX7_ok nmX7 hown hK.1 hP hD hS 0 rfl rfl 0 (by decide) (ht _ q_666) (fun _ h9 => h9) rfl (by decide +kernel) rfl rfl (Nat.le_of_ble_eq_true rfl) dX7_luck_2 (fun H1 locs1 hP1 hD1 hS1 => ?_)
  have hP2 : va_P G.1 vwCl ([(h0, .inr (7, cM (upd Z 0 0) q1 q2 q3 q4 q5 q6 q7 q8 q9 q10 q11 sd))]) H1 := hP1
  have hD3 : va_D A ([(h0, .inr (7, cM (upd Z 0 0) q1 q2 q3 q4 q5 q6 q7 q8 q9 q10 q11 sd))]) := hD1
  refine lv_iload_n hx hb dX7_luck_5 rfl (lv_at hl 1 rfl) ?_
  refine lv_i2l (v := p0.toInt64) hx hb dX7_luck_6 rfl ?_
  refine lv_lconst (v := 0) hx hb dX7_luck_7 (by decide) ?_
  refine lv_ldc2 (v := 6) hx hb hown (ht _ q_955) dX7_luck_8 ?_
  refine k_calli (kRunS (As := [.long p0.toInt64, .long 0, .long 6]) (rest := []) kx (c_X7_in l G p0.toInt64 0 6) q_740 q_738 q_36 q_739 nX7_in ⟨Nat.le_of_ble_eq_true rfl, Nat.le_of_ble_eq_true rfl⟩ hK hP2 hD3 (kCtx_nil _) rfl hl.1 (Nat.le_of_ble_eq_true rfl) dX7_luck_11 ⟨Nat.zero_le _, Nat.zero_le _⟩) hP2 hD3 hS1 hA (kCtx_nil _) (fun _ => rfl) (fun r1 _ H4 locs4 hw hP4 hD4 hS4 => ?_)
  have hr1 : r_X7_in p0.toInt64 0 6 = r1 := (show r1 = r_X7_in p0.toInt64 0 6 from hw).symm
  have hP5 : va_P G.1 vwCl ([(h0, .inr (7, cM (upd Z 0 0) q1 q2 q3 q4 q5 q6 q7 q8 q9 q10 q11 sd))]) H4 := hP4
  have hD6 : va_D A ([(h0, .inr (7, cM (upd Z 0 0) q1 q2 q3 q4 q5 q6 q7 q8 q9 q10 q11 sd))]) := hD4
  refine lv_if_eq (x := r1) (tgt := 29) hx hb dX7_luck_14 (by decide) (fun (c2 : r1 = 0) => ?_) (fun (c2 : ¬ (r1 = 0)) => ?_)
  · skip
    refine lv_bipush (v := (-2)) hx hb dX7_luck_29 (by decide) ?_
    have er : r_X7_luck_x p0 = (-2) := by rw [r_X7_luck_x]; (try rw [hr1]); rw [if_pos c2]
    have e0 : s_X7_luck_x_Z Z p0 = upd Z 0 0 := by rw [s_X7_luck_x_Z]; (try rw [hr1]); rw [if_pos c2]
    exact k_iret kx hK hP5 hD6 hS4 (u := upd Z 0 0) rfl ⟨er.symm, e0.symm⟩ dX7_luck_31
  · skip
    obtain ⟨nnc2, nmc2⟩ := kin_of (x := p0) (a := 0) (N := 6) (by rw [hr1]; exact c2) (by decide) (by decide)
    refine lv_iload_n hx hb dX7_luck_17 rfl (lv_at hl 2 rfl) ?_
    refine lv_i2l (v := p1.toInt64) hx hb dX7_luck_18 rfl ?_
    refine lv_lconst (v := 0) hx hb dX7_luck_19 (by decide) ?_
    refine lv_ldc2 (v := 10) hx hb hown (ht _ q_956) dX7_luck_20 ?_
    refine k_calli (kRunS (As := [.long p1.toInt64, .long 0, .long 10]) (rest := []) kx (c_X7_in l G p1.toInt64 0 10) q_740 q_738 q_36 q_739 nX7_in ⟨Nat.le_of_ble_eq_true rfl, Nat.le_of_ble_eq_true rfl⟩ hK hP5 hD6 (kCtx_nil _) rfl hl.1 (Nat.le_of_ble_eq_true rfl) dX7_luck_23 ⟨Nat.zero_le _, Nat.zero_le _⟩) hP5 hD6 hS4 hA (kCtx_nil _) (fun _ => rfl) (fun r3 _ H7 locs7 hw hP7 hD7 hS7 => ?_)
    have hr3 : r_X7_in p1.toInt64 0 10 = r3 := (show r3 = r_X7_in p1.toInt64 0 10 from hw).symm
    have hP8 : va_P G.1 vwCl ([(h0, .inr (7, cM (upd Z 0 0) q1 q2 q3 q4 q5 q6 q7 q8 q9 q10 q11 sd))]) H7 := hP7
    have hD9 : va_D A ([(h0, .inr (7, cM (upd Z 0 0) q1 q2 q3 q4 q5 q6 q7 q8 q9 q10 q11 sd))]) := hD7
    refine lv_if_ne (x := r3) (tgt := 32) hx hb dX7_luck_26 (by decide) (fun (c4 : ¬ (r3 = 0)) => absurd (hr3.symm.trans (hx9.resolve_left (fun q => c2 (hr1.symm.trans q)))) c4) (fun (c4 : r3 = 0) => ?_)
    refine lv_bipush (v := (-2)) hx hb dX7_luck_29 (by decide) ?_
    have er : r_X7_luck_x p0 = (-2) := by rw [r_X7_luck_x]; (try rw [hr1]); (try rw [hr3]); rw [if_neg c2]
    have e0 : s_X7_luck_x_Z Z p0 = upd Z 0 0 := by rw [s_X7_luck_x_Z]; (try rw [hr1]); (try rw [hr3]); rw [if_neg c2]
    exact k_iret kx hK hP8 hD9 hS7 (u := upd Z 0 0) rfl ⟨er.symm, e0.symm⟩ dX7_luck_31
