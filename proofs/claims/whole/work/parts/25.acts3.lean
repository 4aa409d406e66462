def r_X6_pass (gN : Nat → Nat → Int32) (p0 : Int32) : Int32 := if p0 < 1 then (-2) else if p0 ≤ 30 then ((s_X5_run_g gN p0) 4 0) else (-2)
def s_X6_pass_gN (gN : Nat → Nat → Int32) (p0 : Int32) : Nat → Nat → Int32 := if p0 < 1 then gN else if p0 ≤ 30 then (s_X5_run_g gN p0) else gN
def s_X6_pass_ac (d : Nat) (p0 : Int32) : Nat → Int32 := if p0 < 1 then (kc (nI d)) else if p0 ≤ 30 then (kc (nI (kNoteD d))) else kc (nI d)
def s_X6_pass_bo (d : Nat) (pi : Nat → Nat) (aB : Nat → Nat → Nat) (p0 : Int32) : Nat → Option Nat := if p0 < 1 then (kAO aB pi) else if p0 ≤ 30 then (kAO aB (kPi d pi)) else kAO aB pi
def s_X6_pass_gB (d : Nat) (pi : Nat → Nat) (gN : Nat → Nat → Int32) (gB : Nat → Nat → Nat → Int32) (p0 : Int32) : Nat → Nat → Nat → Int32 := if p0 < 1 then gB else if p0 ≤ 30 then (va_up gB (kPi d pi (kNoteD d - 1)) gN) else gB
set_option maxHeartbeats 4000000 in
set_option maxRecDepth 100000 in
theorem c_X6_pass (l : Launch) (G : kG) (d : Nat) (sd : Int64) (h0 : Nat) (t0 : Nat) (aN : Nat → Nat) (aT : Nat → Nat) (b0 : Nat) (s0 : Nat) (i0 : Nat) (e0 : Nat) (n9 : Nat) (pi : Nat → Nat) (aB : Nat → Nat → Nat) (gN : Nat → Nat → Int32) (gB : Nat → Nat → Nat → Int32) (p0 : Int32) (hd : d ≤ 14) (hpi : ∀ i, i < 14 → pi i < 14) (h14 : n9 = 14) (hN : bW gN) : cG l G yX6_pass cX6_pass 2 (some .int) 5 [.ref h0, .int p0] ([(h0, .inr (6, cQ (kc (nI d)) t0 (aN 0) (aT 0) b0 s0 i0 e0 sd)), (b0, .inl (G.2.2.2, 14, .inr (.inr (.inr (.inr (kAO aB pi))))))] ++ (cW aN gN ++ (kWs aB gB n9))) (qI G (fun (r : Int32) (u : ((Nat → Nat → Int32) × (Nat → Int32) × (Nat → Option Nat) × (Nat → Nat → Nat → Int32))) => r = r_X6_pass gN p0 ∧ u.1 = s_X6_pass_gN gN p0 ∧ u.2.1 = s_X6_pass_ac d p0 ∧ u.2.2.1 = s_X6_pass_bo d pi aB p0 ∧ u.2.2.2 = s_X6_pass_gB d pi gN gB p0) (fun u => [(h0, .inr (6, cQ u.2.1 t0 (aN 0) (aT 0) b0 s0 i0 e0 sd)), (b0, .inl (G.2.2.2, 14, .inr (.inr (.inr (.inr u.2.2.1)))))] ++ (cW aN u.1 ++ (kWs aB u.2.2.2 n9)))) := by
  refine kintro (by decide) (Nat.le_of_ble_eq_true rfl) ?_
  intro p e s m args below meth c A ls kx hK hP hD hS hA hl
  have kx : kX p s m args meth c cX6_pass 2 (some .int) RX6 := kx
  have hx := kx.1
  have hb := kx.2.1
  have hown := kx.2.2.2.2.1
  have ht := kx.2.2.2.2.2.2
  have hl : lv_has ls 2 [(0, .ref h0), (1, .int p0)] := hl
  refine lv_iload_n hx hb dX6_pass_0 rfl (lv_at hl 1 rfl) ?_
  refine lv_iconst (v := 1) hx hb dX6_pass_1 (by decide) ?_
  refine lv_icmp_lt (x := p0) (y := 1) (tgt := 11) hx hb dX6_pass_2 (by decide) (fun (c1 : p0 < 1) => ?_) (fun (c1 : ¬ (p0 < 1)) => ?_)
  · skip
    refine lv_bipush (v := (-2)) hx hb dX6_pass_11 (by decide) ?_
    have er : r_X6_pass gN p0 = (-2) := by rw [r_X6_pass, if_pos c1]
    have e0 : s_X6_pass_gN gN p0 = gN := by rw [s_X6_pass_gN, if_pos c1]
    have e1 : s_X6_pass_ac d p0 = kc (nI d) := by rw [s_X6_pass_ac, if_pos c1]
    have e2 : s_X6_pass_bo d pi aB p0 = kAO aB pi := by rw [s_X6_pass_bo, if_pos c1]
    have e3 : s_X6_pass_gB d pi gN gB p0 = gB := by rw [s_X6_pass_gB, if_pos c1]
    exact k_iret kx hK hP hD hS (u := (gN, kc (nI d), kAO aB pi, gB)) rfl ⟨er.symm, e0.symm, e1.symm, e2.symm, e3.symm⟩ dX6_pass_13
  · skip
    refine lv_iload_n hx hb dX6_pass_5 rfl (lv_at hl 1 rfl) ?_
    refine lv_bipush (v := 30) hx hb dX6_pass_6 (by decide) ?_
    refine lv_icmp_le (x := p0) (y := 30) (tgt := 14) hx hb dX6_pass_8 (by decide) (fun (c2 : p0 ≤ 30) => ?_) (fun (c2 : ¬ (p0 ≤ 30)) => ?_)
    · skip
      refine lv_aload_n hx hb dX6_pass_14 rfl (lv_at hl 0 rfl) ?_
      refine k_callv (kRunV (As := []) (rest := []) kx (c_X6_remember l G d sd h0 t0 aN aT b0 s0 i0 e0 n9 pi aB gN gB hd hpi h14 hN) q_493 q_490 q_29 q_492 q_5 nX6_remember ⟨Nat.le_of_ble_eq_true rfl, Nat.le_of_ble_eq_true rfl⟩ hK hP hD (kCtx_all _) 0 6 rfl rfl rfl rfl hl.1 (Nat.le_of_ble_eq_true rfl) dX6_pass_15 ⟨Nat.zero_le _, Nat.zero_le _⟩) hP hD hS hA (kCtx_all _) (fun _ => by simp only [List.length_append, kWs_len]; rfl) (fun _ H1 locs1 hw hP1 hD1 hS1 => ?_)
      have hP2 : va_P G.1 vwCl ([(h0, .inr (6, cQ (kc (nI (kNoteD d))) t0 (aN 0) (aT 0) b0 s0 i0 e0 sd)), (b0, .inl (G.2.2.2, 14, .inr (.inr (.inr (.inr (kAO aB (kPi d pi)))))))] ++ (cW aN gN ++ (kWs aB (va_up gB (kPi d pi (kNoteD d - 1)) gN) n9))) H1 := hP1
      have hD3 : va_D A ([(h0, .inr (6, cQ (kc (nI (kNoteD d))) t0 (aN 0) (aT 0) b0 s0 i0 e0 sd)), (b0, .inl (G.2.2.2, 14, .inr (.inr (.inr (.inr (kAO aB (kPi d pi)))))))] ++ (cW aN gN ++ (kWs aB (va_up gB (kPi d pi (kNoteD d - 1)) gN) n9))) := hD1
      refine lv_aload_n hx hb dX6_pass_18 rfl (lv_at hl 0 rfl) ?_
      refine va_get (ci := 6) (v := .ref (aN 0)) (C := RX6) (T := TX6) (N := 9) hx hb ht inX6 hown hK.1 hP2 0 rfl rfl 1 (by decide) (ht _ q_264) (fun _ h9 => h9) rfl dX6_pass_19 ?_
      refine lv_iload_n hx hb dX6_pass_22 rfl (lv_at hl 1 rfl) ?_
      refine k_callv (kRunV (As := [.int p0]) (rest := []) kx (c_X5_run l G gN aN p0 hN) q_355 q_498 q_31 q_353 q_354 nX5_run ⟨Nat.le_of_ble_eq_true rfl, Nat.le_of_ble_eq_true rfl⟩ hK hP2 hD3 (kCtx_in (kCtx_front _ _)) 0 5 rfl rfl rfl rfl hl.1 (Nat.le_of_ble_eq_true rfl) dX6_pass_23 ⟨Nat.zero_le _, Nat.zero_le _⟩) hP2 hD3 hS1 hA (kCtx_in (kCtx_front _ _)) (fun _ => rfl) (fun g5 H4 locs4 hw hP4 hD4 hS4 => ?_)
      have hg5 : s_X5_run_g gN p0 = g5 := (show g5 = s_X5_run_g gN p0 from hw).symm
      have hP5 : va_P G.1 vwCl ([(h0, .inr (6, cQ (kc (nI (kNoteD d))) t0 (aN 0) (aT 0) b0 s0 i0 e0 sd)), (b0, .inl (G.2.2.2, 14, .inr (.inr (.inr (.inr (kAO aB (kPi d pi)))))))] ++ (cW aN g5 ++ (kWs aB (va_up gB (kPi d pi (kNoteD d - 1)) gN) n9))) H4 := hP4
      have hD6 : va_D A ([(h0, .inr (6, cQ (kc (nI (kNoteD d))) t0 (aN 0) (aT 0) b0 s0 i0 e0 sd)), (b0, .inl (G.2.2.2, 14, .inr (.inr (.inr (.inr (kAO aB (kPi d pi)))))))] ++ (cW aN g5 ++ (kWs aB (va_up gB (kPi d pi (kNoteD d - 1)) gN) n9))) := hD4
      refine lv_aload_n hx hb dX6_pass_26 rfl (lv_at hl 0 rfl) ?_
      refine va_get (ci := 6) (v := .ref (aN 0)) (C := RX6) (T := TX6) (N := 9) hx hb ht inX6 hown hK.1 hP5 0 rfl rfl 1 (by decide) (ht _ q_264) (fun _ h9 => h9) rfl dX6_pass_27 ?_
      refine va_get (ci := 5) (v := .int (g5 4 0)) (C := RX5) (T := TX5) (N := 8) hx hb ht inX5 hown hK.1 hP5 2 rfl rfl 4 (by decide) (ht _ q_217) (fun _ h9 => h9) rfl dX6_pass_30 ?_
      have er : r_X6_pass gN p0 = g5 4 0 := by rw [r_X6_pass]; (try rw [hg5]); rw [if_neg c1, if_pos c2]
      have e0 : s_X6_pass_gN gN p0 = g5 := by rw [s_X6_pass_gN]; (try rw [hg5]); rw [if_neg c1, if_pos c2]
      have e1 : s_X6_pass_ac d p0 = kc (nI (kNoteD d)) := by rw [s_X6_pass_ac]; (try rw [hg5]); rw [if_neg c1, if_pos c2]
      have e2 : s_X6_pass_bo d pi aB p0 = kAO aB (kPi d pi) := by rw [s_X6_pass_bo]; (try rw [hg5]); rw [if_neg c1, if_pos c2]
      have e3 : s_X6_pass_gB d pi gN gB p0 = va_up gB (kPi d pi (kNoteD d - 1)) gN := by rw [s_X6_pass_gB]; (try rw [hg5]); rw [if_neg c1, if_pos c2]
      exact k_iret kx hK hP5 hD6 hS4 (u := (g5, kc (nI (kNoteD d)), kAO aB (kPi d pi), va_up gB (kPi d pi (kNoteD d - 1)) gN)) rfl ⟨er.symm, e0.symm, e1.symm, e2.symm, e3.symm⟩ dX6_pass_33
    · skip
      refine lv_bipush (v := (-2)) hx hb dX6_pass_11 (by decide) ?_
      have er : r_X6_pass gN p0 = (-2) := by rw [r_X6_pass, if_neg c1, if_neg c2]
      have e0 : s_X6_pass_gN gN p0 = gN := by rw [s_X6_pass_gN, if_neg c1, if_neg c2]
      have e1 : s_X6_pass_ac d p0 = kc (nI d) := by rw [s_X6_pass_ac, if_neg c1, if_neg c2]
      have e2 : s_X6_pass_bo d pi aB p0 = kAO aB pi := by rw [s_X6_pass_bo, if_neg c1, if_neg c2]
      have e3 : s_X6_pass_gB d pi gN gB p0 = gB := by rw [s_X6_pass_gB, if_neg c1, if_neg c2]
      exact k_iret kx hK hP hD hS (u := (gN, kc (nI d), kAO aB pi, gB)) rfl ⟨er.symm, e0.symm, e1.symm, e2.symm, e3.symm⟩ dX6_pass_13

def r_X6_tell (gN : Nat → Nat → Int32) (p0 : Int32) (p1 : Int32) (p2 : Int32) : Int32 := if (r_X6_isZeroOrOne p0) = 0 then (-1) else if p1 < 0 then (-2) else if 2 < p1 then (-2) else if p2 < 1 then (-2) else if p1 = 2 then (if p2 ≤ 5 then (if p0 = 0 then (r_X0_numberOf (gN 0) p1) else r_X0_numberOf (gN 1) p1) else (-2)) else if p2 ≤ 9 then (if p0 = 0 then (r_X0_numberOf (gN 0) p1) else r_X0_numberOf (gN 1) p1) else (-2)
def s_X6_tell_gN (gN : Nat → Nat → Int32) (p0 : Int32) (p1 : Int32) (p2 : Int32) : Nat → Nat → Int32 := if (r_X6_isZeroOrOne p0) = 0 then gN else if p1 < 0 then gN else if 2 < p1 then gN else if p2 < 1 then gN else if p1 = 2 then (if p2 ≤ 5 then (if p0 = 0 then (kg (s_X0_takeSetting_X (gN 0) p1 p2) (gN 1) (gN 2) (gN 3) (gN 4)) else kg (gN 0) (s_X0_takeSetting_X (gN 1) p1 p2) (gN 2) (gN 3) (gN 4)) else gN) else if p2 ≤ 9 then (if p0 = 0 then (kg (s_X0_takeSetting_X (gN 0) p1 p2) (gN 1) (gN 2) (gN 3) (gN 4)) else kg (gN 0) (s_X0_takeSetting_X (gN 1) p1 p2) (gN 2) (gN 3) (gN 4)) else gN
def s_X6_tell_ac (d : Nat) (p0 : Int32) (p1 : Int32) (p2 : Int32) : Nat → Int32 := if (r_X6_isZeroOrOne p0) = 0 then (kc (nI d)) else if p1 < 0 then (kc (nI d)) else if 2 < p1 then (kc (nI d)) else if p2 < 1 then (kc (nI d)) else if p1 = 2 then (if p2 ≤ 5 then (if p0 = 0 then (kc (nI (kNoteD d))) else kc (nI (kNoteD d))) else kc (nI d)) else if p2 ≤ 9 then (if p0 = 0 then (kc (nI (kNoteD d))) else kc (nI (kNoteD d))) else kc (nI d)
def s_X6_tell_bo (d : Nat) (pi : Nat → Nat) (aB : Nat → Nat → Nat) (p0 : Int32) (p1 : Int32) (p2 : Int32) : Nat → Option Nat := if (r_X6_isZeroOrOne p0) = 0 then (kAO aB pi) else if p1 < 0 then (kAO aB pi) else if 2 < p1 then (kAO aB pi) else if p2 < 1 then (kAO aB pi) else if p1 = 2 then (if p2 ≤ 5 then (if p0 = 0 then (kAO aB (kPi d pi)) else kAO aB (kPi d pi)) else kAO aB pi) else if p2 ≤ 9 then (if p0 = 0 then (kAO aB (kPi d pi)) else kAO aB (kPi d pi)) else kAO aB pi
def s_X6_tell_gB (d : Nat) (pi : Nat → Nat) (gN : Nat → Nat → Int32) (gB : Nat → Nat → Nat → Int32) (p0 : Int32) (p1 : Int32) (p2 : Int32) : Nat → Nat → Nat → Int32 := if (r_X6_isZeroOrOne p0) = 0 then gB else if p1 < 0 then gB else if 2 < p1 then gB else if p2 < 1 then gB else if p1 = 2 then (if p2 ≤ 5 then (if p0 = 0 then (va_up gB (kPi d pi (kNoteD d - 1)) gN) else va_up gB (kPi d pi (kNoteD d - 1)) gN) else gB) else if p2 ≤ 9 then (if p0 = 0 then (va_up gB (kPi d pi (kNoteD d - 1)) gN) else va_up gB (kPi d pi (kNoteD d - 1)) gN) else gB
set_option maxHeartbeats 4000000 in
set_option maxRecDepth 100000 in
theorem c_X6_tell (l : Launch) (G : kG) (d : Nat) (sd : Int64) (h0 : Nat) (t0 : Nat) (aN : Nat → Nat) (aT : Nat → Nat) (b0 : Nat) (s0 : Nat) (i0 : Nat) (e0 : Nat) (n9 : Nat) (pi : Nat → Nat) (aB : Nat → Nat → Nat) (gN : Nat → Nat → Int32) (gB : Nat → Nat → Nat → Int32) (p0 : Int32) (p1 : Int32) (p2 : Int32) (hd : d ≤ 14) (hpi : ∀ i, i < 14 → pi i < 14) (h14 : n9 = 14) (hN : bW gN) : cG l G yX6_tell cX6_tell 6 (some .int) 4 [.ref h0, .int p0, .int p1, .int p2] ([(h0, .inr (6, cQ (kc (nI d)) t0 (aN 0) (aT 0) b0 s0 i0 e0 sd)), (b0, .inl (G.2.2.2, 14, .inr (.inr (.inr (.inr (kAO aB pi))))))] ++ (cW aN gN ++ (kWs aB gB n9))) (qI G (fun (r : Int32) (u : ((Nat → Nat → Int32) × (Nat → Int32) × (Nat → Option Nat) × (Nat → Nat → Nat → Int32))) => r = r_X6_tell gN p0 p1 p2 ∧ u.1 = s_X6_tell_gN gN p0 p1 p2 ∧ u.2.1 = s_X6_tell_ac d p0 p1 p2 ∧ u.2.2.1 = s_X6_tell_bo d pi aB p0 p1 p2 ∧ u.2.2.2 = s_X6_tell_gB d pi gN gB p0 p1 p2) (fun u => [(h0, .inr (6, cQ u.2.1 t0 (aN 0) (aT 0) b0 s0 i0 e0 sd)), (b0, .inl (G.2.2.2, 14, .inr (.inr (.inr (.inr u.2.2.1)))))] ++ (cW aN u.1 ++ (kWs aB u.2.2.2 n9)))) := by
  refine kintro (by decide) (Nat.le_of_ble_eq_true rfl) ?_
  intro p e s m args below meth c A ls kx hK hP hD hS hA hl
  have kx : kX p s m args meth c cX6_tell 6 (some .int) RX6 := kx
  have hx := kx.1
  have hb := kx.2.1
  have hown := kx.2.2.2.2.1
  have ht := kx.2.2.2.2.2.2
  have hl : lv_has ls 6 [(0, .ref h0), (1, .int p0), (2, .int p1), (3, .int p2)] := hl
  refine lv_iload_n hx hb dX6_tell_0 rfl (lv_at hl 1 rfl) ?_
  refine k_calli (kRunS (As := [.int p0]) (rest := []) kx (c_X6_isZeroOrOne l G p0) q_431 q_429 q_29 q_430 nX6_isZeroOrOne ⟨Nat.le_of_ble_eq_true rfl, Nat.le_of_ble_eq_true rfl⟩ hK hP hD (kCtx_nil _) rfl hl.1 (Nat.le_of_ble_eq_true rfl) dX6_tell_1 ⟨Nat.zero_le _, Nat.zero_le _⟩) hP hD hS hA (kCtx_nil _) (fun _ => rfl) (fun r1 _ H1 locs1 hw hP1 hD1 hS1 => ?_)
  have hr1 : r_X6_isZeroOrOne p0 = r1 := (show r1 = r_X6_isZeroOrOne p0 from hw).symm
  have hP2 : va_P G.1 vwCl ([(h0, .inr (6, cQ (kc (nI d)) t0 (aN 0) (aT 0) b0 s0 i0 e0 sd)), (b0, .inl (G.2.2.2, 14, .inr (.inr (.inr (.inr (kAO aB pi))))))] ++ (cW aN gN ++ (kWs aB gB n9))) H1 := hP1
  have hD3 : va_D A ([(h0, .inr (6, cQ (kc (nI d)) t0 (aN 0) (aT 0) b0 s0 i0 e0 sd)), (b0, .inl (G.2.2.2, 14, .inr (.inr (.inr (.inr (kAO aB pi))))))] ++ (cW aN gN ++ (kWs aB gB n9))) := hD1
  refine lv_if_ne (x := r1) (tgt := 9) hx hb dX6_tell_4 (by decide) (fun (c2 : ¬ (r1 = 0)) => ?_) (fun (c2 : r1 = 0) => ?_)
  · skip
    refine lv_iload_n hx hb dX6_tell_9 rfl (lv_at hl 2 rfl) ?_
    refine lv_if_lt (x := p1) (tgt := 38) hx hb dX6_tell_10 (by decide) (fun (c3 : p1 < 0) => ?_) (fun (c3 : ¬ (p1 < 0)) => ?_)
    · skip
      refine lv_bipush (v := (-2)) hx hb dX6_tell_38 (by decide) ?_
      have er : r_X6_tell gN p0 p1 p2 = (-2) := by rw [r_X6_tell]; (try rw [hr1]); rw [if_neg c2, if_pos c3]
      have e0 : s_X6_tell_gN gN p0 p1 p2 = gN := by rw [s_X6_tell_gN]; (try rw [hr1]); rw [if_neg c2, if_pos c3]
      have e1 : s_X6_tell_ac d p0 p1 p2 = kc (nI d) := by rw [s_X6_tell_ac]; (try rw [hr1]); rw [if_neg c2, if_pos c3]
      have e2 : s_X6_tell_bo d pi aB p0 p1 p2 = kAO aB pi := by rw [s_X6_tell_bo]; (try rw [hr1]); rw [if_neg c2, if_pos c3]
      have e3 : s_X6_tell_gB d pi gN gB p0 p1 p2 = gB := by rw [s_X6_tell_gB]; (try rw [hr1]); rw [if_neg c2, if_pos c3]
      exact k_iret kx hK hP2 hD3 hS1 (u := (gN, kc (nI d), kAO aB pi, gB)) rfl ⟨er.symm, e0.symm, e1.symm, e2.symm, e3.symm⟩ dX6_tell_40
    · skip
      refine lv_iload_n hx hb dX6_tell_13 rfl (lv_at hl 2 rfl) ?_
      refine lv_iconst (v := 2) hx hb dX6_tell_14 (by decide) ?_
      refine lv_icmp_gt (x := p1) (y := 2) (tgt := 38) hx hb dX6_tell_15 (by decide) (fun (c4 : 2 < p1) => ?_) (fun (c4 : ¬ (2 < p1)) => ?_)
      · skip
        refine lv_bipush (v := (-2)) hx hb dX6_tell_38 (by decide) ?_
        have er : r_X6_tell gN p0 p1 p2 = (-2) := by rw [r_X6_tell]; (try rw [hr1]); rw [if_neg c2, if_neg c3, if_pos c4]
        have e0 : s_X6_tell_gN gN p0 p1 p2 = gN := by rw [s_X6_tell_gN]; (try rw [hr1]); rw [if_neg c2, if_neg c3, if_pos c4]
        have e1 : s_X6_tell_ac d p0 p1 p2 = kc (nI d) := by rw [s_X6_tell_ac]; (try rw [hr1]); rw [if_neg c2, if_neg c3, if_pos c4]
        have e2 : s_X6_tell_bo d pi aB p0 p1 p2 = kAO aB pi := by rw [s_X6_tell_bo]; (try rw [hr1]); rw [if_neg c2, if_neg c3, if_pos c4]
        have e3 : s_X6_tell_gB d pi gN gB p0 p1 p2 = gB := by rw [s_X6_tell_gB]; (try rw [hr1]); rw [if_neg c2, if_neg c3, if_pos c4]
        exact k_iret kx hK hP2 hD3 hS1 (u := (gN, kc (nI d), kAO aB pi, gB)) rfl ⟨er.symm, e0.symm, e1.symm, e2.symm, e3.symm⟩ dX6_tell_40
      · skip
        refine lv_iload_n hx hb dX6_tell_18 rfl (lv_at hl 3 rfl) ?_
        refine lv_iconst (v := 1) hx hb dX6_tell_19 (by decide) ?_
        refine lv_icmp_lt (x := p2) (y := 1) (tgt := 38) hx hb dX6_tell_20 (by decide) (fun (c5 : p2 < 1) => ?_) (fun (c5 : ¬ (p2 < 1)) => ?_)
        · skip
          refine lv_bipush (v := (-2)) hx hb dX6_tell_38 (by decide) ?_
          have er : r_X6_tell gN p0 p1 p2 = (-2) := by rw [r_X6_tell]; (try rw [hr1]); rw [if_neg c2, if_neg c3, if_neg c4, if_pos c5]
          have e0 : s_X6_tell_gN gN p0 p1 p2 = gN := by rw [s_X6_tell_gN]; (try rw [hr1]); rw [if_neg c2, if_neg c3, if_neg c4, if_pos c5]
          have e1 : s_X6_tell_ac d p0 p1 p2 = kc (nI d) := by rw [s_X6_tell_ac]; (try rw [hr1]); rw [if_neg c2, if_neg c3, if_neg c4, if_pos c5]
          have e2 : s_X6_tell_bo d pi aB p0 p1 p2 = kAO aB pi := by rw [s_X6_tell_bo]; (try rw [hr1]); rw [if_neg c2, if_neg c3, if_neg c4, if_pos c5]
          have e3 : s_X6_tell_gB d pi gN gB p0 p1 p2 = gB := by rw [s_X6_tell_gB]; (try rw [hr1]); rw [if_neg c2, if_neg c3, if_neg c4, if_pos c5]
          exact k_iret kx hK hP2 hD3 hS1 (u := (gN, kc (nI d), kAO aB pi, gB)) rfl ⟨er.symm, e0.symm, e1.symm, e2.symm, e3.symm⟩ dX6_tell_40
        · skip
          refine lv_iload_n hx hb dX6_tell_23 rfl (lv_at hl 3 rfl) ?_
          refine lv_iload_n hx hb dX6_tell_24 rfl (lv_at hl 2 rfl) ?_
          refine lv_iconst (v := 2) hx hb dX6_tell_25 (by decide) ?_
          refine lv_icmp_ne (x := p1) (y := 2) (tgt := 33) hx hb dX6_tell_26 (by decide) (fun (c6 : ¬ (p1 = 2)) => ?_) (fun (c6 : p1 = 2) => ?_)
          · skip
            refine lv_bipush (v := 9) hx hb dX6_tell_33 (by decide) ?_
            refine lv_icmp_le (x := p2) (y := 9) (tgt := 41) hx hb dX6_tell_35 (by decide) (fun (c7 : p2 ≤ 9) => ?_) (fun (c7 : ¬ (p2 ≤ 9)) => ?_)
            · skip
              refine lv_aload_n hx hb dX6_tell_41 rfl (lv_at hl 0 rfl) ?_
              refine k_callv (kRunV (As := []) (rest := []) kx (c_X6_remember l G d sd h0 t0 aN aT b0 s0 i0 e0 n9 pi aB gN gB hd hpi h14 hN) q_493 q_490 q_29 q_492 q_5 nX6_remember ⟨Nat.le_of_ble_eq_true rfl, Nat.le_of_ble_eq_true rfl⟩ hK hP2 hD3 (kCtx_all _) 0 6 rfl rfl rfl rfl hl.1 (Nat.le_of_ble_eq_true rfl) dX6_tell_42 ⟨Nat.zero_le _, Nat.zero_le _⟩) hP2 hD3 hS1 hA (kCtx_all _) (fun _ => by simp only [List.length_append, kWs_len]; rfl) (fun _ H4 locs4 hw hP4 hD4 hS4 => ?_)
              have hP5 : va_P G.1 vwCl ([(h0, .inr (6, cQ (kc (nI (kNoteD d))) t0 (aN 0) (aT 0) b0 s0 i0 e0 sd)), (b0, .inl (G.2.2.2, 14, .inr (.inr (.inr (.inr (kAO aB (kPi d pi)))))))] ++ (cW aN gN ++ (kWs aB (va_up gB (kPi d pi (kNoteD d - 1)) gN) n9))) H4 := hP4
              have hD6 : va_D A ([(h0, .inr (6, cQ (kc (nI (kNoteD d))) t0 (aN 0) (aT 0) b0 s0 i0 e0 sd)), (b0, .inl (G.2.2.2, 14, .inr (.inr (.inr (.inr (kAO aB (kPi d pi)))))))] ++ (cW aN gN ++ (kWs aB (va_up gB (kPi d pi (kNoteD d - 1)) gN) n9))) := hD4
              refine lv_aload_n hx hb dX6_tell_45 rfl (lv_at hl 0 rfl) ?_
              refine va_get (ci := 6) (v := .ref (aN 0)) (C := RX6) (T := TX6) (N := 9) hx hb ht inX6 hown hK.1 hP5 0 rfl rfl 1 (by decide) (ht _ q_264) (fun _ h9 => h9) rfl dX6_tell_46 ?_
              refine lv_iload_n hx hb dX6_tell_49 rfl (lv_at hl 1 rfl) ?_
              by_cases c9 : p0 = 0
              · skip
                refine k_top (y := 0) c9 ?_
                refine k_callr (kRunV (As := [.int 0]) (rest := []) kx (c_X5_endOf_0 l G (gN 4) (aN 0) (aN 1) (aN 3) (aN 5) (aN 7)) q_329 q_449 q_31 q_327 q_328 nX5_endOf ⟨Nat.le_of_ble_eq_true rfl, Nat.le_of_ble_eq_true rfl⟩ hK hP5 hD6 (kCtx_places _ _ [2] rfl rfl) 0 5 rfl rfl rfl rfl hl.1 (Nat.le_of_ble_eq_true rfl) dX6_tell_50 ⟨Nat.zero_le _, Nat.zero_le _⟩) hP5 hD6 hS4 hA (kCtx_places _ _ [2] rfl rfl) (fun _ => rfl) (fun r10 _ H7 locs7 hw hP7 hD7 hS7 => ?_)
                have hr10 : aN 1 = r10 := (show r10 = aN 1 from hw).symm
                subst hr10
                have hP8 : va_P G.1 vwCl ([(h0, .inr (6, cQ (kc (nI (kNoteD d))) t0 (aN 0) (aT 0) b0 s0 i0 e0 sd)), (b0, .inl (G.2.2.2, 14, .inr (.inr (.inr (.inr (kAO aB (kPi d pi)))))))] ++ (cW aN gN ++ (kWs aB (va_up gB (kPi d pi (kNoteD d - 1)) gN) n9))) H7 := hP7
                have hD9 : va_D A ([(h0, .inr (6, cQ (kc (nI (kNoteD d))) t0 (aN 0) (aT 0) b0 s0 i0 e0 sd)), (b0, .inl (G.2.2.2, 14, .inr (.inr (.inr (.inr (kAO aB (kPi d pi)))))))] ++ (cW aN gN ++ (kWs aB (va_up gB (kPi d pi (kNoteD d - 1)) gN) n9))) := hD7
                refine lv_astore (lv' := [(4, .ref (aN 1)), (0, .ref h0), (1, .int p0), (2, .int p1), (3, .int p2)]) hx hb dX6_tell_53 hl (by decide) rfl (fun ls10 hl10 => ?_)
                refine lv_aload hx hb dX6_tell_55 (lv_at hl10 0 rfl) ?_
                refine lv_iload_n hx hb dX6_tell_57 rfl (lv_at hl10 3 rfl) ?_
                refine k_calli (kRunV (As := [.int p1]) (rest := []) kx (c_X0_numberOf l G (gN 0) (aN 1) (aN 2) p1) q_466 q_463 q_32 q_464 q_465 nX0_numberOf ⟨Nat.le_of_ble_eq_true rfl, Nat.le_of_ble_eq_true rfl⟩ hK hP8 hD9 (kCtx_places _ _ [3, 4] rfl rfl) 0 0 rfl rfl rfl rfl hl10.1 (Nat.le_of_ble_eq_true rfl) dX6_tell_58 ⟨Nat.zero_le _, Nat.zero_le _⟩) hP8 hD9 hS7 hA (kCtx_places _ _ [3, 4] rfl rfl) (fun _ => rfl) (fun r11 _ H11 locs11 hw hP11 hD11 hS11 => ?_)
                have hr11 : r_X0_numberOf (gN 0) p1 = r11 := (show r11 = r_X0_numberOf (gN 0) p1 from hw).symm
                have hP12 : va_P G.1 vwCl ([(h0, .inr (6, cQ (kc (nI (kNoteD d))) t0 (aN 0) (aT 0) b0 s0 i0 e0 sd)), (b0, .inl (G.2.2.2, 14, .inr (.inr (.inr (.inr (kAO aB (kPi d pi)))))))] ++ (cW aN gN ++ (kWs aB (va_up gB (kPi d pi (kNoteD d - 1)) gN) n9))) H11 := hP11
                have hD13 : va_D A ([(h0, .inr (6, cQ (kc (nI (kNoteD d))) t0 (aN 0) (aT 0) b0 s0 i0 e0 sd)), (b0, .inl (G.2.2.2, 14, .inr (.inr (.inr (.inr (kAO aB (kPi d pi)))))))] ++ (cW aN gN ++ (kWs aB (va_up gB (kPi d pi (kNoteD d - 1)) gN) n9))) := hD11
                refine lv_istore (lv' := [(5, .int r11), (4, .ref (aN 1)), (0, .ref h0), (1, .int p0), (2, .int p1), (3, .int p2)]) hx hb dX6_tell_61 hl10 (by decide) rfl (fun ls14 hl14 => ?_)
                refine lv_aload hx hb dX6_tell_63 (lv_at hl14 1 rfl) ?_
                refine lv_iload_n hx hb dX6_tell_65 rfl (lv_at hl14 4 rfl) ?_
                refine lv_iload_n hx hb dX6_tell_66 rfl (lv_at hl14 5 rfl) ?_
                refine k_callv (kRunV (As := [.int p1, .int p2]) (rest := []) kx (c_X0_takeSetting l G (gN 0) (aN 1) (aN 2) p1 p2) q_333 q_503 q_32 q_331 q_332 nX0_takeSetting ⟨Nat.le_of_ble_eq_true rfl, Nat.le_of_ble_eq_true rfl⟩ hK hP12 hD13 (kCtx_places _ _ [3, 4] rfl rfl) 0 0 rfl rfl rfl rfl hl14.1 (Nat.le_of_ble_eq_true rfl) dX6_tell_67 ⟨Nat.zero_le _, Nat.zero_le _⟩) hP12 hD13 hS11 hA (kCtx_places _ _ [3, 4] rfl rfl) (fun _ => rfl) (fun F13 H15 locs15 hw hP15 hD15 hS15 => ?_)
                have hF13 : s_X0_takeSetting_X (gN 0) p1 p2 = F13 := (show F13 = s_X0_takeSetting_X (gN 0) p1 p2 from hw).symm
                have hP16 : va_P G.1 vwCl ([(h0, .inr (6, cQ (kc (nI (kNoteD d))) t0 (aN 0) (aT 0) b0 s0 i0 e0 sd)), (b0, .inl (G.2.2.2, 14, .inr (.inr (.inr (.inr (kAO aB (kPi d pi)))))))] ++ (cW aN (kg F13 (gN 1) (gN 2) (gN 3) (gN 4)) ++ (kWs aB (va_up gB (kPi d pi (kNoteD d - 1)) gN) n9))) H15 := hP15
                have hD17 : va_D A ([(h0, .inr (6, cQ (kc (nI (kNoteD d))) t0 (aN 0) (aT 0) b0 s0 i0 e0 sd)), (b0, .inl (G.2.2.2, 14, .inr (.inr (.inr (.inr (kAO aB (kPi d pi)))))))] ++ (cW aN (kg F13 (gN 1) (gN 2) (gN 3) (gN 4)) ++ (kWs aB (va_up gB (kPi d pi (kNoteD d - 1)) gN) n9))) := hD15
                refine lv_iload hx hb dX6_tell_70 (lv_at hl14 0 rfl) ?_
                have er : r_X6_tell gN p0 p1 p2 = r11 := by rw [r_X6_tell]; (try rw [hr1]); (try rw [hr11]); (try rw [hF13]); rw [if_neg c2, if_neg c3, if_neg c4, if_neg c5, if_neg c6, if_pos c7, if_pos c9]
                have e0 : s_X6_tell_gN gN p0 p1 p2 = kg F13 (gN 1) (gN 2) (gN 3) (gN 4) := by rw [s_X6_tell_gN]; (try rw [hr1]); (try rw [hr11]); (try rw [hF13]); rw [if_neg c2, if_neg c3, if_neg c4, if_neg c5, if_neg c6, if_pos c7, if_pos c9]
                have e1 : s_X6_tell_ac d p0 p1 p2 = kc (nI (kNoteD d)) := by rw [s_X6_tell_ac]; (try rw [hr1]); (try rw [hr11]); (try rw [hF13]); rw [if_neg c2, if_neg c3, if_neg c4, if_neg c5, if_neg c6, if_pos c7, if_pos c9]
                have e2 : s_X6_tell_bo d pi aB p0 p1 p2 = kAO aB (kPi d pi) := by rw [s_X6_tell_bo]; (try rw [hr1]); (try rw [hr11]); (try rw [hF13]); rw [if_neg c2, if_neg c3, if_neg c4, if_neg c5, if_neg c6, if_pos c7, if_pos c9]
                have e3 : s_X6_tell_gB d pi gN gB p0 p1 p2 = va_up gB (kPi d pi (kNoteD d - 1)) gN := by rw [s_X6_tell_gB]; (try rw [hr1]); (try rw [hr11]); (try rw [hF13]); rw [if_neg c2, if_neg c3, if_neg c4, if_neg c5, if_neg c6, if_pos c7, if_pos c9]
                exact k_iret kx hK hP16 hD17 hS15 (u := (kg F13 (gN 1) (gN 2) (gN 3) (gN 4), kc (nI (kNoteD d)), kAO aB (kPi d pi), va_up gB (kPi d pi (kNoteD d - 1)) gN)) rfl ⟨er.symm, e0.symm, e1.symm, e2.symm, e3.symm⟩ dX6_tell_72
              · skip
                refine k_callr (kRunV (As := [.int p0]) (rest := []) kx (c_X5_endOf_n l G (gN 4) (aN 0) (aN 1) (aN 3) (aN 5) (aN 7) p0 c9) q_329 q_449 q_31 q_327 q_328 nX5_endOf ⟨Nat.le_of_ble_eq_true rfl, Nat.le_of_ble_eq_true rfl⟩ hK hP5 hD6 (kCtx_places _ _ [2] rfl rfl) 0 5 rfl rfl rfl rfl hl.1 (Nat.le_of_ble_eq_true rfl) dX6_tell_50 ⟨Nat.zero_le _, Nat.zero_le _⟩) hP5 hD6 hS4 hA (kCtx_places _ _ [2] rfl rfl) (fun _ => rfl) (fun r14 _ H18 locs18 hw hP18 hD18 hS18 => ?_)
                have hr14 : aN 3 = r14 := (show r14 = aN 3 from hw).symm
                subst hr14
                have hP19 : va_P G.1 vwCl ([(h0, .inr (6, cQ (kc (nI (kNoteD d))) t0 (aN 0) (aT 0) b0 s0 i0 e0 sd)), (b0, .inl (G.2.2.2, 14, .inr (.inr (.inr (.inr (kAO aB (kPi d pi)))))))] ++ (cW aN gN ++ (kWs aB (va_up gB (kPi d pi (kNoteD d - 1)) gN) n9))) H18 := hP18
                have hD20 : va_D A ([(h0, .inr (6, cQ (kc (nI (kNoteD d))) t0 (aN 0) (aT 0) b0 s0 i0 e0 sd)), (b0, .inl (G.2.2.2, 14, .inr (.inr (.inr (.inr (kAO aB (kPi d pi)))))))] ++ (cW aN gN ++ (kWs aB (va_up gB (kPi d pi (kNoteD d - 1)) gN) n9))) := hD18
                refine lv_astore (lv' := [(4, .ref (aN 3)), (0, .ref h0), (1, .int p0), (2, .int p1), (3, .int p2)]) hx hb dX6_tell_53 hl (by decide) rfl (fun ls21 hl21 => ?_)
                refine lv_aload hx hb dX6_tell_55 (lv_at hl21 0 rfl) ?_
                refine lv_iload_n hx hb dX6_tell_57 rfl (lv_at hl21 3 rfl) ?_
                refine k_calli (kRunV (As := [.int p1]) (rest := []) kx (c_X0_numberOf l G (gN 1) (aN 3) (aN 4) p1) q_466 q_463 q_32 q_464 q_465 nX0_numberOf ⟨Nat.le_of_ble_eq_true rfl, Nat.le_of_ble_eq_true rfl⟩ hK hP19 hD20 (kCtx_places _ _ [5, 6] rfl rfl) 0 0 rfl rfl rfl rfl hl21.1 (Nat.le_of_ble_eq_true rfl) dX6_tell_58 ⟨Nat.zero_le _, Nat.zero_le _⟩) hP19 hD20 hS18 hA (kCtx_places _ _ [5, 6] rfl rfl) (fun _ => rfl) (fun r15 _ H22 locs22 hw hP22 hD22 hS22 => ?_)
                have hr15 : r_X0_numberOf (gN 1) p1 = r15 := (show r15 = r_X0_numberOf (gN 1) p1 from hw).symm
                have hP23 : va_P G.1 vwCl ([(h0, .inr (6, cQ (kc (nI (kNoteD d))) t0 (aN 0) (aT 0) b0 s0 i0 e0 sd)), (b0, .inl (G.2.2.2, 14, .inr (.inr (.inr (.inr (kAO aB (kPi d pi)))))))] ++ (cW aN gN ++ (kWs aB (va_up gB (kPi d pi (kNoteD d - 1)) gN) n9))) H22 := hP22
                have hD24 : va_D A ([(h0, .inr (6, cQ (kc (nI (kNoteD d))) t0 (aN 0) (aT 0) b0 s0 i0 e0 sd)), (b0, .inl (G.2.2.2, 14, .inr (.inr (.inr (.inr (kAO aB (kPi d pi)))))))] ++ (cW aN gN ++ (kWs aB (va_up gB (kPi d pi (kNoteD d - 1)) gN) n9))) := hD22
                refine lv_istore (lv' := [(5, .int r15), (4, .ref (aN 3)), (0, .ref h0), (1, .int p0), (2, .int p1), (3, .int p2)]) hx hb dX6_tell_61 hl21 (by decide) rfl (fun ls25 hl25 => ?_)
                refine lv_aload hx hb dX6_tell_63 (lv_at hl25 1 rfl) ?_
                refine lv_iload_n hx hb dX6_tell_65 rfl (lv_at hl25 4 rfl) ?_
                refine lv_iload_n hx hb dX6_tell_66 rfl (lv_at hl25 5 rfl) ?_
                refine k_callv (kRunV (As := [.int p1, .int p2]) (rest := []) kx (c_X0_takeSetting l G (gN 1) (aN 3) (aN 4) p1 p2) q_333 q_503 q_32 q_331 q_332 nX0_takeSetting ⟨Nat.le_of_ble_eq_true rfl, Nat.le_of_ble_eq_true rfl⟩ hK hP23 hD24 (kCtx_places _ _ [5, 6] rfl rfl) 0 0 rfl rfl rfl rfl hl25.1 (Nat.le_of_ble_eq_true rfl) dX6_tell_67 ⟨Nat.zero_le _, Nat.zero_le _⟩) hP23 hD24 hS22 hA (kCtx_places _ _ [5, 6] rfl rfl) (fun _ => rfl) (fun F17 H26 locs26 hw hP26 hD26 hS26 => ?_)
                have hF17 : s_X0_takeSetting_X (gN 1) p1 p2 = F17 := (show F17 = s_X0_takeSetting_X (gN 1) p1 p2 from hw).symm
                have hP27 : va_P G.1 vwCl ([(h0, .inr (6, cQ (kc (nI (kNoteD d))) t0 (aN 0) (aT 0) b0 s0 i0 e0 sd)), (b0, .inl (G.2.2.2, 14, .inr (.inr (.inr (.inr (kAO aB (kPi d pi)))))))] ++ (cW aN (kg (gN 0) F17 (gN 2) (gN 3) (gN 4)) ++ (kWs aB (va_up gB (kPi d pi (kNoteD d - 1)) gN) n9))) H26 := hP26
                have hD28 : va_D A ([(h0, .inr (6, cQ (kc (nI (kNoteD d))) t0 (aN 0) (aT 0) b0 s0 i0 e0 sd)), (b0, .inl (G.2.2.2, 14, .inr (.inr (.inr (.inr (kAO aB (kPi d pi)))))))] ++ (cW aN (kg (gN 0) F17 (gN 2) (gN 3) (gN 4)) ++ (kWs aB (va_up gB (kPi d pi (kNoteD d - 1)) gN) n9))) := hD26
                refine lv_iload hx hb dX6_tell_70 (lv_at hl25 0 rfl) ?_
                have er : r_X6_tell gN p0 p1 p2 = r15 := by rw [r_X6_tell]; (try rw [hr1]); (try rw [hr15]); (try rw [hF17]); rw [if_neg c2, if_neg c3, if_neg c4, if_neg c5, if_neg c6, if_pos c7, if_neg c9]
                have e0 : s_X6_tell_gN gN p0 p1 p2 = kg (gN 0) F17 (gN 2) (gN 3) (gN 4) := by rw [s_X6_tell_gN]; (try rw [hr1]); (try rw [hr15]); (try rw [hF17]); rw [if_neg c2, if_neg c3, if_neg c4, if_neg c5, if_neg c6, if_pos c7, if_neg c9]
                have e1 : s_X6_tell_ac d p0 p1 p2 = kc (nI (kNoteD d)) := by rw [s_X6_tell_ac]; (try rw [hr1]); (try rw [hr15]); (try rw [hF17]); rw [if_neg c2, if_neg c3, if_neg c4, if_neg c5, if_neg c6, if_pos c7, if_neg c9]
                have e2 : s_X6_tell_bo d pi aB p0 p1 p2 = kAO aB (kPi d pi) := by rw [s_X6_tell_bo]; (try rw [hr1]); (try rw [hr15]); (try rw [hF17]); rw [if_neg c2, if_neg c3, if_neg c4, if_neg c5, if_neg c6, if_pos c7, if_neg c9]
                have e3 : s_X6_tell_gB d pi gN gB p0 p1 p2 = va_up gB (kPi d pi (kNoteD d - 1)) gN := by rw [s_X6_tell_gB]; (try rw [hr1]); (try rw [hr15]); (try rw [hF17]); rw [if_neg c2, if_neg c3, if_neg c4, if_neg c5, if_neg c6, if_pos c7, if_neg c9]
                exact k_iret kx hK hP27 hD28 hS26 (u := (kg (gN 0) F17 (gN 2) (gN 3) (gN 4), kc (nI (kNoteD d)), kAO aB (kPi d pi), va_up gB (kPi d pi (kNoteD d - 1)) gN)) rfl ⟨er.symm, e0.symm, e1.symm, e2.symm, e3.symm⟩ dX6_tell_72
            · skip
              refine lv_bipush (v := (-2)) hx hb dX6_tell_38 (by decide) ?_
              have er : r_X6_tell gN p0 p1 p2 = (-2) := by rw [r_X6_tell]; (try rw [hr1]); rw [if_neg c2, if_neg c3, if_neg c4, if_neg c5, if_neg c6, if_neg c7]
              have e0 : s_X6_tell_gN gN p0 p1 p2 = gN := by rw [s_X6_tell_gN]; (try rw [hr1]); rw [if_neg c2, if_neg c3, if_neg c4, if_neg c5, if_neg c6, if_neg c7]
              have e1 : s_X6_tell_ac d p0 p1 p2 = kc (nI d) := by rw [s_X6_tell_ac]; (try rw [hr1]); rw [if_neg c2, if_neg c3, if_neg c4, if_neg c5, if_neg c6, if_neg c7]
              have e2 : s_X6_tell_bo d pi aB p0 p1 p2 = kAO aB pi := by rw [s_X6_tell_bo]; (try rw [hr1]); rw [if_neg c2, if_neg c3, if_neg c4, if_neg c5, if_neg c6, if_neg c7]
              have e3 : s_X6_tell_gB d pi gN gB p0 p1 p2 = gB := by rw [s_X6_tell_gB]; (try rw [hr1]); rw [if_neg c2, if_neg c3, if_neg c4, if_neg c5, if_neg c6, if_neg c7]
              exact k_iret kx hK hP2 hD3 hS1 (u := (gN, kc (nI d), kAO aB pi, gB)) rfl ⟨er.symm, e0.symm, e1.symm, e2.symm, e3.symm⟩ dX6_tell_40
          · skip
            refine lv_iconst (v := 5) hx hb dX6_tell_29 (by decide) ?_
            refine lv_goto (tgt := 35) hx hb dX6_tell_30 (by decide) ?_
            refine lv_icmp_le (x := p2) (y := 5) (tgt := 41) hx hb dX6_tell_35 (by decide) (fun (c18 : p2 ≤ 5) => ?_) (fun (c18 : ¬ (p2 ≤ 5)) => ?_)
            · skip
              refine lv_aload_n hx hb dX6_tell_41 rfl (lv_at hl 0 rfl) ?_
              refine k_callv (kRunV (As := []) (rest := []) kx (c_X6_remember l G d sd h0 t0 aN aT b0 s0 i0 e0 n9 pi aB gN gB hd hpi h14 hN) q_493 q_490 q_29 q_492 q_5 nX6_remember ⟨Nat.le_of_ble_eq_true rfl, Nat.le_of_ble_eq_true rfl⟩ hK hP2 hD3 (kCtx_all _) 0 6 rfl rfl rfl rfl hl.1 (Nat.le_of_ble_eq_true rfl) dX6_tell_42 ⟨Nat.zero_le _, Nat.zero_le _⟩) hP2 hD3 hS1 hA (kCtx_all _) (fun _ => by simp only [List.length_append, kWs_len]; rfl) (fun _ H29 locs29 hw hP29 hD29 hS29 => ?_)
              have hP30 : va_P G.1 vwCl ([(h0, .inr (6, cQ (kc (nI (kNoteD d))) t0 (aN 0) (aT 0) b0 s0 i0 e0 sd)), (b0, .inl (G.2.2.2, 14, .inr (.inr (.inr (.inr (kAO aB (kPi d pi)))))))] ++ (cW aN gN ++ (kWs aB (va_up gB (kPi d pi (kNoteD d - 1)) gN) n9))) H29 := hP29
              have hD31 : va_D A ([(h0, .inr (6, cQ (kc (nI (kNoteD d))) t0 (aN 0) (aT 0) b0 s0 i0 e0 sd)), (b0, .inl (G.2.2.2, 14, .inr (.inr (.inr (.inr (kAO aB (kPi d pi)))))))] ++ (cW aN gN ++ (kWs aB (va_up gB (kPi d pi (kNoteD d - 1)) gN) n9))) := hD29
              refine lv_aload_n hx hb dX6_tell_45 rfl (lv_at hl 0 rfl) ?_
              refine va_get (ci := 6) (v := .ref (aN 0)) (C := RX6) (T := TX6) (N := 9) hx hb ht inX6 hown hK.1 hP30 0 rfl rfl 1 (by decide) (ht _ q_264) (fun _ h9 => h9) rfl dX6_tell_46 ?_
              refine lv_iload_n hx hb dX6_tell_49 rfl (lv_at hl 1 rfl) ?_
              by_cases c20 : p0 = 0
              · skip
                refine k_top (y := 0) c20 ?_
                refine k_callr (kRunV (As := [.int 0]) (rest := []) kx (c_X5_endOf_0 l G (gN 4) (aN 0) (aN 1) (aN 3) (aN 5) (aN 7)) q_329 q_449 q_31 q_327 q_328 nX5_endOf ⟨Nat.le_of_ble_eq_true rfl, Nat.le_of_ble_eq_true rfl⟩ hK hP30 hD31 (kCtx_places _ _ [2] rfl rfl) 0 5 rfl rfl rfl rfl hl.1 (Nat.le_of_ble_eq_true rfl) dX6_tell_50 ⟨Nat.zero_le _, Nat.zero_le _⟩) hP30 hD31 hS29 hA (kCtx_places _ _ [2] rfl rfl) (fun _ => rfl) (fun r21 _ H32 locs32 hw hP32 hD32 hS32 => ?_)
                have hr21 : aN 1 = r21 := (show r21 = aN 1 from hw).symm
                subst hr21
                have hP33 : va_P G.1 vwCl ([(h0, .inr (6, cQ (kc (nI (kNoteD d))) t0 (aN 0) (aT 0) b0 s0 i0 e0 sd)), (b0, .inl (G.2.2.2, 14, .inr (.inr (.inr (.inr (kAO aB (kPi d pi)))))))] ++ (cW aN gN ++ (kWs aB (va_up gB (kPi d pi (kNoteD d - 1)) gN) n9))) H32 := hP32
                have hD34 : va_D A ([(h0, .inr (6, cQ (kc (nI (kNoteD d))) t0 (aN 0) (aT 0) b0 s0 i0 e0 sd)), (b0, .inl (G.2.2.2, 14, .inr (.inr (.inr (.inr (kAO aB (kPi d pi)))))))] ++ (cW aN gN ++ (kWs aB (va_up gB (kPi d pi (kNoteD d - 1)) gN) n9))) := hD32
                refine lv_astore (lv' := [(4, .ref (aN 1)), (0, .ref h0), (1, .int p0), (2, .int p1), (3, .int p2)]) hx hb dX6_tell_53 hl (by decide) rfl (fun ls35 hl35 => ?_)
                refine lv_aload hx hb dX6_tell_55 (lv_at hl35 0 rfl) ?_
                refine lv_iload_n hx hb dX6_tell_57 rfl (lv_at hl35 3 rfl) ?_
                refine k_calli (kRunV (As := [.int p1]) (rest := []) kx (c_X0_numberOf l G (gN 0) (aN 1) (aN 2) p1) q_466 q_463 q_32 q_464 q_465 nX0_numberOf ⟨Nat.le_of_ble_eq_true rfl, Nat.le_of_ble_eq_true rfl⟩ hK hP33 hD34 (kCtx_places _ _ [3, 4] rfl rfl) 0 0 rfl rfl rfl rfl hl35.1 (Nat.le_of_ble_eq_true rfl) dX6_tell_58 ⟨Nat.zero_le _, Nat.zero_le _⟩) hP33 hD34 hS32 hA (kCtx_places _ _ [3, 4] rfl rfl) (fun _ => rfl) (fun r22 _ H36 locs36 hw hP36 hD36 hS36 => ?_)
                have hr22 : r_X0_numberOf (gN 0) p1 = r22 := (show r22 = r_X0_numberOf (gN 0) p1 from hw).symm
                have hP37 : va_P G.1 vwCl ([(h0, .inr (6, cQ (kc (nI (kNoteD d))) t0 (aN 0) (aT 0) b0 s0 i0 e0 sd)), (b0, .inl (G.2.2.2, 14, .inr (.inr (.inr (.inr (kAO aB (kPi d pi)))))))] ++ (cW aN gN ++ (kWs aB (va_up gB (kPi d pi (kNoteD d - 1)) gN) n9))) H36 := hP36
                have hD38 : va_D A ([(h0, .inr (6, cQ (kc (nI (kNoteD d))) t0 (aN 0) (aT 0) b0 s0 i0 e0 sd)), (b0, .inl (G.2.2.2, 14, .inr (.inr (.inr (.inr (kAO aB (kPi d pi)))))))] ++ (cW aN gN ++ (kWs aB (va_up gB (kPi d pi (kNoteD d - 1)) gN) n9))) := hD36
                refine lv_istore (lv' := [(5, .int r22), (4, .ref (aN 1)), (0, .ref h0), (1, .int p0), (2, .int p1), (3, .int p2)]) hx hb dX6_tell_61 hl35 (by decide) rfl (fun ls39 hl39 => ?_)
                refine lv_aload hx hb dX6_tell_63 (lv_at hl39 1 rfl) ?_
                refine lv_iload_n hx hb dX6_tell_65 rfl (lv_at hl39 4 rfl) ?_
                refine lv_iload_n hx hb dX6_tell_66 rfl (lv_at hl39 5 rfl) ?_
                refine k_callv (kRunV (As := [.int p1, .int p2]) (rest := []) kx (c_X0_takeSetting l G (gN 0) (aN 1) (aN 2) p1 p2) q_333 q_503 q_32 q_331 q_332 nX0_takeSetting ⟨Nat.le_of_ble_eq_true rfl, Nat.le_of_ble_eq_true rfl⟩ hK hP37 hD38 (kCtx_places _ _ [3, 4] rfl rfl) 0 0 rfl rfl rfl rfl hl39.1 (Nat.le_of_ble_eq_true rfl) dX6_tell_67 ⟨Nat.zero_le _, Nat.zero_le _⟩) hP37 hD38 hS36 hA (kCtx_places _ _ [3, 4] rfl rfl) (fun _ => rfl) (fun F24 H40 locs40 hw hP40 hD40 hS40 => ?_)
                have hF24 : s_X0_takeSetting_X (gN 0) p1 p2 = F24 := (show F24 = s_X0_takeSetting_X (gN 0) p1 p2 from hw).symm
                have hP41 : va_P G.1 vwCl ([(h0, .inr (6, cQ (kc (nI (kNoteD d))) t0 (aN 0) (aT 0) b0 s0 i0 e0 sd)), (b0, .inl (G.2.2.2, 14, .inr (.inr (.inr (.inr (kAO aB (kPi d pi)))))))] ++ (cW aN (kg F24 (gN 1) (gN 2) (gN 3) (gN 4)) ++ (kWs aB (va_up gB (kPi d pi (kNoteD d - 1)) gN) n9))) H40 := hP40
                have hD42 : va_D A ([(h0, .inr (6, cQ (kc (nI (kNoteD d))) t0 (aN 0) (aT 0) b0 s0 i0 e0 sd)), (b0, .inl (G.2.2.2, 14, .inr (.inr (.inr (.inr (kAO aB (kPi d pi)))))))] ++ (cW aN (kg F24 (gN 1) (gN 2) (gN 3) (gN 4)) ++ (kWs aB (va_up gB (kPi d pi (kNoteD d - 1)) gN) n9))) := hD40
                refine lv_iload hx hb dX6_tell_70 (lv_at hl39 0 rfl) ?_
                have er : r_X6_tell gN p0 p1 p2 = r22 := by rw [r_X6_tell]; (try rw [hr1]); (try rw [hr22]); (try rw [hF24]); rw [if_neg c2, if_neg c3, if_neg c4, if_neg c5, if_pos c6, if_pos c18, if_pos c20]
                have e0 : s_X6_tell_gN gN p0 p1 p2 = kg F24 (gN 1) (gN 2) (gN 3) (gN 4) := by rw [s_X6_tell_gN]; (try rw [hr1]); (try rw [hr22]); (try rw [hF24]); rw [if_neg c2, if_neg c3, if_neg c4, if_neg c5, if_pos c6, if_pos c18, if_pos c20]
                have e1 : s_X6_tell_ac d p0 p1 p2 = kc (nI (kNoteD d)) := by rw [s_X6_tell_ac]; (try rw [hr1]); (try rw [hr22]); (try rw [hF24]); rw [if_neg c2, if_neg c3, if_neg c4, if_neg c5, if_pos c6, if_pos c18, if_pos c20]
                have e2 : s_X6_tell_bo d pi aB p0 p1 p2 = kAO aB (kPi d pi) := by rw [s_X6_tell_bo]; (try rw [hr1]); (try rw [hr22]); (try rw [hF24]); rw [if_neg c2, if_neg c3, if_neg c4, if_neg c5, if_pos c6, if_pos c18, if_pos c20]
                have e3 : s_X6_tell_gB d pi gN gB p0 p1 p2 = va_up gB (kPi d pi (kNoteD d - 1)) gN := by rw [s_X6_tell_gB]; (try rw [hr1]); (try rw [hr22]); (try rw [hF24]); rw [if_neg c2, if_neg c3, if_neg c4, if_neg c5, if_pos c6, if_pos c18, if_pos c20]
                exact k_iret kx hK hP41 hD42 hS40 (u := (kg F24 (gN 1) (gN 2) (gN 3) (gN 4), kc (nI (kNoteD d)), kAO aB (kPi d pi), va_up gB (kPi d pi (kNoteD d - 1)) gN)) rfl ⟨er.symm, e0.symm, e1.symm, e2.symm, e3.symm⟩ dX6_tell_72
              · skip
                refine k_callr (kRunV (As := [.int p0]) (rest := []) kx (c_X5_endOf_n l G (gN 4) (aN 0) (aN 1) (aN 3) (aN 5) (aN 7) p0 c20) q_329 q_449 q_31 q_327 q_328 nX5_endOf ⟨Nat.le_of_ble_eq_true rfl, Nat.le_of_ble_eq_true rfl⟩ hK hP30 hD31 (kCtx_places _ _ [2] rfl rfl) 0 5 rfl rfl rfl rfl hl.1 (Nat.le_of_ble_eq_true rfl) dX6_tell_50 ⟨Nat.zero_le _, Nat.zero_le _⟩) hP30 hD31 hS29 hA (kCtx_places _ _ [2] rfl rfl) (fun _ => rfl) (fun r25 _ H43 locs43 hw hP43 hD43 hS43 => ?_)
                have hr25 : aN 3 = r25 := (show r25 = aN 3 from hw).symm
                subst hr25
                have hP44 : va_P G.1 vwCl ([(h0, .inr (6, cQ (kc (nI (kNoteD d))) t0 (aN 0) (aT 0) b0 s0 i0 e0 sd)), (b0, .inl (G.2.2.2, 14, .inr (.inr (.inr (.inr (kAO aB (kPi d pi)))))))] ++ (cW aN gN ++ (kWs aB (va_up gB (kPi d pi (kNoteD d - 1)) gN) n9))) H43 := hP43
                have hD45 : va_D A ([(h0, .inr (6, cQ (kc (nI (kNoteD d))) t0 (aN 0) (aT 0) b0 s0 i0 e0 sd)), (b0, .inl (G.2.2.2, 14, .inr (.inr (.inr (.inr (kAO aB (kPi d pi)))))))] ++ (cW aN gN ++ (kWs aB (va_up gB (kPi d pi (kNoteD d - 1)) gN) n9))) := hD43
                refine lv_astore (lv' := [(4, .ref (aN 3)), (0, .ref h0), (1, .int p0), (2, .int p1), (3, .int p2)]) hx hb dX6_tell_53 hl (by decide) rfl (fun ls46 hl46 => ?_)
                refine lv_aload hx hb dX6_tell_55 (lv_at hl46 0 rfl) ?_
                refine lv_iload_n hx hb dX6_tell_57 rfl (lv_at hl46 3 rfl) ?_
                refine k_calli (kRunV (As := [.int p1]) (rest := []) kx (c_X0_numberOf l G (gN 1) (aN 3) (aN 4) p1) q_466 q_463 q_32 q_464 q_465 nX0_numberOf ⟨Nat.le_of_ble_eq_true rfl, Nat.le_of_ble_eq_true rfl⟩ hK hP44 hD45 (kCtx_places _ _ [5, 6] rfl rfl) 0 0 rfl rfl rfl rfl hl46.1 (Nat.le_of_ble_eq_true rfl) dX6_tell_58 ⟨Nat.zero_le _, Nat.zero_le _⟩) hP44 hD45 hS43 hA (kCtx_places _ _ [5, 6] rfl rfl) (fun _ => rfl) (fun r26 _ H47 locs47 hw hP47 hD47 hS47 => ?_)
                have hr26 : r_X0_numberOf (gN 1) p1 = r26 := (show r26 = r_X0_numberOf (gN 1) p1 from hw).symm
                have hP48 : va_P G.1 vwCl ([(h0, .inr (6, cQ (kc (nI (kNoteD d))) t0 (aN 0) (aT 0) b0 s0 i0 e0 sd)), (b0, .inl (G.2.2.2, 14, .inr (.inr (.inr (.inr (kAO aB (kPi d pi)))))))] ++ (cW aN gN ++ (kWs aB (va_up gB (kPi d pi (kNoteD d - 1)) gN) n9))) H47 := hP47
                have hD49 : va_D A ([(h0, .inr (6, cQ (kc (nI (kNoteD d))) t0 (aN 0) (aT 0) b0 s0 i0 e0 sd)), (b0, .inl (G.2.2.2, 14, .inr (.inr (.inr (.inr (kAO aB (kPi d pi)))))))] ++ (cW aN gN ++ (kWs aB (va_up gB (kPi d pi (kNoteD d - 1)) gN) n9))) := hD47
                refine lv_istore (lv' := [(5, .int r26), (4, .ref (aN 3)), (0, .ref h0), (1, .int p0), (2, .int p1), (3, .int p2)]) hx hb dX6_tell_61 hl46 (by decide) rfl (fun ls50 hl50 => ?_)
                refine lv_aload hx hb dX6_tell_63 (lv_at hl50 1 rfl) ?_
                refine lv_iload_n hx hb dX6_tell_65 rfl (lv_at hl50 4 rfl) ?_
                refine lv_iload_n hx hb dX6_tell_66 rfl (lv_at hl50 5 rfl) ?_
                refine k_callv (kRunV (As := [.int p1, .int p2]) (rest := []) kx (c_X0_takeSetting l G (gN 1) (aN 3) (aN 4) p1 p2) q_333 q_503 q_32 q_331 q_332 nX0_takeSetting ⟨Nat.le_of_ble_eq_true rfl, Nat.le_of_ble_eq_true rfl⟩ hK hP48 hD49 (kCtx_places _ _ [5, 6] rfl rfl) 0 0 rfl rfl rfl rfl hl50.1 (Nat.le_of_ble_eq_true rfl) dX6_tell_67 ⟨Nat.zero_le _, Nat.zero_le _⟩) hP48 hD49 hS47 hA (kCtx_places _ _ [5, 6] rfl rfl) (fun _ => rfl) (fun F28 H51 locs51 hw hP51 hD51 hS51 => ?_)
                have hF28 : s_X0_takeSetting_X (gN 1) p1 p2 = F28 := (show F28 = s_X0_takeSetting_X (gN 1) p1 p2 from hw).symm
                have hP52 : va_P G.1 vwCl ([(h0, .inr (6, cQ (kc (nI (kNoteD d))) t0 (aN 0) (aT 0) b0 s0 i0 e0 sd)), (b0, .inl (G.2.2.2, 14, .inr (.inr (.inr (.inr (kAO aB (kPi d pi)))))))] ++ (cW aN (kg (gN 0) F28 (gN 2) (gN 3) (gN 4)) ++ (kWs aB (va_up gB (kPi d pi (kNoteD d - 1)) gN) n9))) H51 := hP51
                have hD53 : va_D A ([(h0, .inr (6, cQ (kc (nI (kNoteD d))) t0 (aN 0) (aT 0) b0 s0 i0 e0 sd)), (b0, .inl (G.2.2.2, 14, .inr (.inr (.inr (.inr (kAO aB (kPi d pi)))))))] ++ (cW aN (kg (gN 0) F28 (gN 2) (gN 3) (gN 4)) ++ (kWs aB (va_up gB (kPi d pi (kNoteD d - 1)) gN) n9))) := hD51
                refine lv_iload hx hb dX6_tell_70 (lv_at hl50 0 rfl) ?_
                have er : r_X6_tell gN p0 p1 p2 = r26 := by rw [r_X6_tell]; (try rw [hr1]); (try rw [hr26]); (try rw [hF28]); rw [if_neg c2, if_neg c3, if_neg c4, if_neg c5, if_pos c6, if_pos c18, if_neg c20]
                have e0 : s_X6_tell_gN gN p0 p1 p2 = kg (gN 0) F28 (gN 2) (gN 3) (gN 4) := by rw [s_X6_tell_gN]; (try rw [hr1]); (try rw [hr26]); (try rw [hF28]); rw [if_neg c2, if_neg c3, if_neg c4, if_neg c5, if_pos c6, if_pos c18, if_neg c20]
                have e1 : s_X6_tell_ac d p0 p1 p2 = kc (nI (kNoteD d)) := by rw [s_X6_tell_ac]; (try rw [hr1]); (try rw [hr26]); (try rw [hF28]); rw [if_neg c2, if_neg c3, if_neg c4, if_neg c5, if_pos c6, if_pos c18, if_neg c20]
                have e2 : s_X6_tell_bo d pi aB p0 p1 p2 = kAO aB (kPi d pi) := by rw [s_X6_tell_bo]; (try rw [hr1]); (try rw [hr26]); (try rw [hF28]); rw [if_neg c2, if_neg c3, if_neg c4, if_neg c5, if_pos c6, if_pos c18, if_neg c20]
                have e3 : s_X6_tell_gB d pi gN gB p0 p1 p2 = va_up gB (kPi d pi (kNoteD d - 1)) gN := by rw [s_X6_tell_gB]; (try rw [hr1]); (try rw [hr26]); (try rw [hF28]); rw [if_neg c2, if_neg c3, if_neg c4, if_neg c5, if_pos c6, if_pos c18, if_neg c20]
                exact k_iret kx hK hP52 hD53 hS51 (u := (kg (gN 0) F28 (gN 2) (gN 3) (gN 4), kc (nI (kNoteD d)), kAO aB (kPi d pi), va_up gB (kPi d pi (kNoteD d - 1)) gN)) rfl ⟨er.symm, e0.symm, e1.symm, e2.symm, e3.symm⟩ dX6_tell_72
            · skip
              refine lv_bipush (v := (-2)) hx hb dX6_tell_38 (by decide) ?_
              have er : r_X6_tell gN p0 p1 p2 = (-2) := by rw [r_X6_tell]; (try rw [hr1]); rw [if_neg c2, if_neg c3, if_neg c4, if_neg c5, if_pos c6, if_neg c18]
              have e0 : s_X6_tell_gN gN p0 p1 p2 = gN := by rw [s_X6_tell_gN]; (try rw [hr1]); rw [if_neg c2, if_neg c3, if_neg c4, if_neg c5, if_pos c6, if_neg c18]
              have e1 : s_X6_tell_ac d p0 p1 p2 = kc (nI d) := by rw [s_X6_tell_ac]; (try rw [hr1]); rw [if_neg c2, if_neg c3, if_neg c4, if_neg c5, if_pos c6, if_neg c18]
              have e2 : s_X6_tell_bo d pi aB p0 p1 p2 = kAO aB pi := by rw [s_X6_tell_bo]; (try rw [hr1]); rw [if_neg c2, if_neg c3, if_neg c4, if_neg c5, if_pos c6, if_neg c18]
              have e3 : s_X6_tell_gB d pi gN gB p0 p1 p2 = gB := by rw [s_X6_tell_gB]; (try rw [hr1]); rw [if_neg c2, if_neg c3, if_neg c4, if_neg c5, if_pos c6, if_neg c18]
              exact k_iret kx hK hP2 hD3 hS1 (u := (gN, kc (nI d), kAO aB pi, gB)) rfl ⟨er.symm, e0.symm, e1.symm, e2.symm, e3.symm⟩ dX6_tell_40
  · skip
    refine lv_iconst (v := (-1)) hx hb dX6_tell_7 (by decide) ?_
    have er : r_X6_tell gN p0 p1 p2 = (-1) := by rw [r_X6_tell]; (try rw [hr1]); rw [if_pos c2]
    have e0 : s_X6_tell_gN gN p0 p1 p2 = gN := by rw [s_X6_tell_gN]; (try rw [hr1]); rw [if_pos c2]
    have e1 : s_X6_tell_ac d p0 p1 p2 = kc (nI d) := by rw [s_X6_tell_ac]; (try rw [hr1]); rw [if_pos c2]
    have e2 : s_X6_tell_bo d pi aB p0 p1 p2 = kAO aB pi := by rw [s_X6_tell_bo]; (try rw [hr1]); rw [if_pos c2]
    have e3 : s_X6_tell_gB d pi gN gB p0 p1 p2 = gB := by rw [s_X6_tell_gB]; (try rw [hr1]); rw [if_pos c2]
    exact k_iret kx hK hP2 hD3 hS1 (u := (gN, kc (nI d), kAO aB pi, gB)) rfl ⟨er.symm, e0.symm, e1.symm, e2.symm, e3.symm⟩ dX6_tell_8

def r_X6_demand (gN : Nat → Nat → Int32) (p0 : Int32) : Int32 := if (r_X6_isZeroOrOne p0) = 0 then (-1) else if p0 = 0 then (r_X6_oneIf ((s_X0_turnDemand_X (gN 0)) 7)) else r_X6_oneIf ((s_X0_turnDemand_X (gN 1)) 7)
def s_X6_demand_gN (gN : Nat → Nat → Int32) (p0 : Int32) : Nat → Nat → Int32 := if (r_X6_isZeroOrOne p0) = 0 then gN else if p0 = 0 then (kg (s_X0_turnDemand_X (gN 0)) (gN 1) (gN 2) (gN 3) (gN 4)) else kg (gN 0) (s_X0_turnDemand_X (gN 1)) (gN 2) (gN 3) (gN 4)
def s_X6_demand_ac (d : Nat) (p0 : Int32) : Nat → Int32 := if (r_X6_isZeroOrOne p0) = 0 then (kc (nI d)) else if p0 = 0 then (kc (nI (kNoteD d))) else kc (nI (kNoteD d))
def s_X6_demand_bo (d : Nat) (pi : Nat → Nat) (aB : Nat → Nat → Nat) (p0 : Int32) : Nat → Option Nat := if (r_X6_isZeroOrOne p0) = 0 then (kAO aB pi) else if p0 = 0 then (kAO aB (kPi d pi)) else kAO aB (kPi d pi)
def s_X6_demand_gB (d : Nat) (pi : Nat → Nat) (gN : Nat → Nat → Int32) (gB : Nat → Nat → Nat → Int32) (p0 : Int32) : Nat → Nat → Nat → Int32 := if (r_X6_isZeroOrOne p0) = 0 then gB else if p0 = 0 then (va_up gB (kPi d pi (kNoteD d - 1)) gN) else va_up gB (kPi d pi (kNoteD d - 1)) gN
set_option maxHeartbeats 4000000 in
set_option maxRecDepth 100000 in
theorem c_X6_demand (l : Launch) (G : kG) (d : Nat) (sd : Int64) (h0 : Nat) (t0 : Nat) (aN : Nat → Nat) (aT : Nat → Nat) (b0 : Nat) (s0 : Nat) (i0 : Nat) (e0 : Nat) (n9 : Nat) (pi : Nat → Nat) (aB : Nat → Nat → Nat) (gN : Nat → Nat → Int32) (gB : Nat → Nat → Nat → Int32) (p0 : Int32) (hd : d ≤ 14) (hpi : ∀ i, i < 14 → pi i < 14) (h14 : n9 = 14) (hN : bW gN) : cG l G yX6_demand cX6_demand 3 (some .int) 4 [.ref h0, .int p0] ([(h0, .inr (6, cQ (kc (nI d)) t0 (aN 0) (aT 0) b0 s0 i0 e0 sd)), (b0, .inl (G.2.2.2, 14, .inr (.inr (.inr (.inr (kAO aB pi))))))] ++ (cW aN gN ++ (kWs aB gB n9))) (qI G (fun (r : Int32) (u : ((Nat → Nat → Int32) × (Nat → Int32) × (Nat → Option Nat) × (Nat → Nat → Nat → Int32))) => r = r_X6_demand gN p0 ∧ u.1 = s_X6_demand_gN gN p0 ∧ u.2.1 = s_X6_demand_ac d p0 ∧ u.2.2.1 = s_X6_demand_bo d pi aB p0 ∧ u.2.2.2 = s_X6_demand_gB d pi gN gB p0) (fun u => [(h0, .inr (6, cQ u.2.1 t0 (aN 0) (aT 0) b0 s0 i0 e0 sd)), (b0, .inl (G.2.2.2, 14, .inr (.inr (.inr (.inr u.2.2.1)))))] ++ (cW aN u.1 ++ (kWs aB u.2.2.2 n9)))) := by
  refine kintro (by decide) (Nat.le_of_ble_eq_true rfl) ?_
  intro p e s m args below meth c A ls kx hK hP hD hS hA hl
  have kx : kX p s m args meth c cX6_demand 3 (some .int) RX6 := kx
  have hx := kx.1
  have hb := kx.2.1
  have hown := kx.2.2.2.2.1
  have ht := kx.2.2.2.2.2.2
  have hl : lv_has ls 3 [(0, .ref h0), (1, .int p0)] := hl
  refine lv_iload_n hx hb dX6_demand_0 rfl (lv_at hl 1 rfl) ?_
  refine k_calli (kRunS (As := [.int p0]) (rest := []) kx (c_X6_isZeroOrOne l G p0) q_431 q_429 q_29 q_430 nX6_isZeroOrOne ⟨Nat.le_of_ble_eq_true rfl, Nat.le_of_ble_eq_true rfl⟩ hK hP hD (kCtx_nil _) rfl hl.1 (Nat.le_of_ble_eq_true rfl) dX6_demand_1 ⟨Nat.zero_le _, Nat.zero_le _⟩) hP hD hS hA (kCtx_nil _) (fun _ => rfl) (fun r1 _ H1 locs1 hw hP1 hD1 hS1 => ?_)
  have hr1 : r_X6_isZeroOrOne p0 = r1 := (show r1 = r_X6_isZeroOrOne p0 from hw).symm
  have hP2 : va_P G.1 vwCl ([(h0, .inr (6, cQ (kc (nI d)) t0 (aN 0) (aT 0) b0 s0 i0 e0 sd)), (b0, .inl (G.2.2.2, 14, .inr (.inr (.inr (.inr (kAO aB pi))))))] ++ (cW aN gN ++ (kWs aB gB n9))) H1 := hP1
  have hD3 : va_D A ([(h0, .inr (6, cQ (kc (nI d)) t0 (aN 0) (aT 0) b0 s0 i0 e0 sd)), (b0, .inl (G.2.2.2, 14, .inr (.inr (.inr (.inr (kAO aB pi))))))] ++ (cW aN gN ++ (kWs aB gB n9))) := hD1
  refine lv_if_ne (x := r1) (tgt := 9) hx hb dX6_demand_4 (by decide) (fun (c2 : ¬ (r1 = 0)) => ?_) (fun (c2 : r1 = 0) => ?_)
  · skip
    refine lv_aload_n hx hb dX6_demand_9 rfl (lv_at hl 0 rfl) ?_
    refine k_callv (kRunV (As := []) (rest := []) kx (c_X6_remember l G d sd h0 t0 aN aT b0 s0 i0 e0 n9 pi aB gN gB hd hpi h14 hN) q_493 q_490 q_29 q_492 q_5 nX6_remember ⟨Nat.le_of_ble_eq_true rfl, Nat.le_of_ble_eq_true rfl⟩ hK hP2 hD3 (kCtx_all _) 0 6 rfl rfl rfl rfl hl.1 (Nat.le_of_ble_eq_true rfl) dX6_demand_10 ⟨Nat.zero_le _, Nat.zero_le _⟩) hP2 hD3 hS1 hA (kCtx_all _) (fun _ => by simp only [List.length_append, kWs_len]; rfl) (fun _ H4 locs4 hw hP4 hD4 hS4 => ?_)
    have hP5 : va_P G.1 vwCl ([(h0, .inr (6, cQ (kc (nI (kNoteD d))) t0 (aN 0) (aT 0) b0 s0 i0 e0 sd)), (b0, .inl (G.2.2.2, 14, .inr (.inr (.inr (.inr (kAO aB (kPi d pi)))))))] ++ (cW aN gN ++ (kWs aB (va_up gB (kPi d pi (kNoteD d - 1)) gN) n9))) H4 := hP4
    have hD6 : va_D A ([(h0, .inr (6, cQ (kc (nI (kNoteD d))) t0 (aN 0) (aT 0) b0 s0 i0 e0 sd)), (b0, .inl (G.2.2.2, 14, .inr (.inr (.inr (.inr (kAO aB (kPi d pi)))))))] ++ (cW aN gN ++ (kWs aB (va_up gB (kPi d pi (kNoteD d - 1)) gN) n9))) := hD4
    refine lv_aload_n hx hb dX6_demand_13 rfl (lv_at hl 0 rfl) ?_
    refine va_get (ci := 6) (v := .ref (aN 0)) (C := RX6) (T := TX6) (N := 9) hx hb ht inX6 hown hK.1 hP5 0 rfl rfl 1 (by decide) (ht _ q_264) (fun _ h9 => h9) rfl dX6_demand_14 ?_
    refine lv_iload_n hx hb dX6_demand_17 rfl (lv_at hl 1 rfl) ?_
    by_cases c4 : p0 = 0
    · skip
      refine k_top (y := 0) c4 ?_
      refine k_callr (kRunV (As := [.int 0]) (rest := []) kx (c_X5_endOf_0 l G (gN 4) (aN 0) (aN 1) (aN 3) (aN 5) (aN 7)) q_329 q_449 q_31 q_327 q_328 nX5_endOf ⟨Nat.le_of_ble_eq_true rfl, Nat.le_of_ble_eq_true rfl⟩ hK hP5 hD6 (kCtx_places _ _ [2] rfl rfl) 0 5 rfl rfl rfl rfl hl.1 (Nat.le_of_ble_eq_true rfl) dX6_demand_18 ⟨Nat.zero_le _, Nat.zero_le _⟩) hP5 hD6 hS4 hA (kCtx_places _ _ [2] rfl rfl) (fun _ => rfl) (fun r5 _ H7 locs7 hw hP7 hD7 hS7 => ?_)
      have hr5 : aN 1 = r5 := (show r5 = aN 1 from hw).symm
      subst hr5
      have hP8 : va_P G.1 vwCl ([(h0, .inr (6, cQ (kc (nI (kNoteD d))) t0 (aN 0) (aT 0) b0 s0 i0 e0 sd)), (b0, .inl (G.2.2.2, 14, .inr (.inr (.inr (.inr (kAO aB (kPi d pi)))))))] ++ (cW aN gN ++ (kWs aB (va_up gB (kPi d pi (kNoteD d - 1)) gN) n9))) H7 := hP7
      have hD9 : va_D A ([(h0, .inr (6, cQ (kc (nI (kNoteD d))) t0 (aN 0) (aT 0) b0 s0 i0 e0 sd)), (b0, .inl (G.2.2.2, 14, .inr (.inr (.inr (.inr (kAO aB (kPi d pi)))))))] ++ (cW aN gN ++ (kWs aB (va_up gB (kPi d pi (kNoteD d - 1)) gN) n9))) := hD7
      refine lv_astore_n (lv' := [(2, .ref (aN 1)), (0, .ref h0), (1, .int p0)]) hx hb dX6_demand_21 rfl hl (by decide) rfl (fun ls10 hl10 => ?_)
      refine lv_aload_n hx hb dX6_demand_22 rfl (lv_at hl10 0 rfl) ?_
      refine k_callv (kRunV (As := []) (rest := []) kx (c_X0_turnDemand l G (gN 0) (aN 1) (aN 2)) q_343 q_508 q_32 q_341 q_342 nX0_turnDemand ⟨Nat.le_of_ble_eq_true rfl, Nat.le_of_ble_eq_true rfl⟩ hK hP8 hD9 (kCtx_places _ _ [3, 4] rfl rfl) 0 0 rfl rfl rfl rfl hl10.1 (Nat.le_of_ble_eq_true rfl) dX6_demand_23 ⟨Nat.zero_le _, Nat.zero_le _⟩) hP8 hD9 hS7 hA (kCtx_places _ _ [3, 4] rfl rfl) (fun _ => rfl) (fun F7 H11 locs11 hw hP11 hD11 hS11 => ?_)
      have hF7 : s_X0_turnDemand_X (gN 0) = F7 := (show F7 = s_X0_turnDemand_X (gN 0) from hw).symm
      have hP12 : va_P G.1 vwCl ([(h0, .inr (6, cQ (kc (nI (kNoteD d))) t0 (aN 0) (aT 0) b0 s0 i0 e0 sd)), (b0, .inl (G.2.2.2, 14, .inr (.inr (.inr (.inr (kAO aB (kPi d pi)))))))] ++ (cW aN (kg F7 (gN 1) (gN 2) (gN 3) (gN 4)) ++ (kWs aB (va_up gB (kPi d pi (kNoteD d - 1)) gN) n9))) H11 := hP11
      have hD13 : va_D A ([(h0, .inr (6, cQ (kc (nI (kNoteD d))) t0 (aN 0) (aT 0) b0 s0 i0 e0 sd)), (b0, .inl (G.2.2.2, 14, .inr (.inr (.inr (.inr (kAO aB (kPi d pi)))))))] ++ (cW aN (kg F7 (gN 1) (gN 2) (gN 3) (gN 4)) ++ (kWs aB (va_up gB (kPi d pi (kNoteD d - 1)) gN) n9))) := hD11
      refine lv_aload_n hx hb dX6_demand_26 rfl (lv_at hl10 0 rfl) ?_
      refine va_get (ci := 0) (v := .int (F7 7)) (C := RX0) (T := TX0) (N := 12) hx hb ht inX0 hown hK.1 hP12 3 rfl rfl 9 (by decide) (ht _ q_124) (fun _ h9 => h9) rfl dX6_demand_27 ?_
      refine k_calli (kRunS (As := [.int (F7 7)]) (rest := []) kx (c_X6_oneIf l G (F7 7)) q_469 q_485 q_29 q_468 nX6_oneIf ⟨Nat.le_of_ble_eq_true rfl, Nat.le_of_ble_eq_true rfl⟩ hK hP12 hD13 (kCtx_nil _) rfl hl10.1 (Nat.le_of_ble_eq_true rfl) dX6_demand_30 ⟨Nat.zero_le _, Nat.zero_le _⟩) hP12 hD13 hS11 hA (kCtx_nil _) (fun _ => rfl) (fun r8 _ H14 locs14 hw hP14 hD14 hS14 => ?_)
      have hr8 : r_X6_oneIf (F7 7) = r8 := (show r8 = r_X6_oneIf (F7 7) from hw).symm
      have hP15 : va_P G.1 vwCl ([(h0, .inr (6, cQ (kc (nI (kNoteD d))) t0 (aN 0) (aT 0) b0 s0 i0 e0 sd)), (b0, .inl (G.2.2.2, 14, .inr (.inr (.inr (.inr (kAO aB (kPi d pi)))))))] ++ (cW aN (kg F7 (gN 1) (gN 2) (gN 3) (gN 4)) ++ (kWs aB (va_up gB (kPi d pi (kNoteD d - 1)) gN) n9))) H14 := hP14
      have hD16 : va_D A ([(h0, .inr (6, cQ (kc (nI (kNoteD d))) t0 (aN 0) (aT 0) b0 s0 i0 e0 sd)), (b0, .inl (G.2.2.2, 14, .inr (.inr (.inr (.inr (kAO aB (kPi d pi)))))))] ++ (cW aN (kg F7 (gN 1) (gN 2) (gN 3) (gN 4)) ++ (kWs aB (va_up gB (kPi d pi (kNoteD d - 1)) gN) n9))) := hD14
      have er : r_X6_demand gN p0 = r8 := by rw [r_X6_demand]; (try rw [hr1]); (try rw [hF7]); (try rw [hr8]); rw [if_neg c2, if_pos c4]
      have e0 : s_X6_demand_gN gN p0 = kg F7 (gN 1) (gN 2) (gN 3) (gN 4) := by rw [s_X6_demand_gN]; (try rw [hr1]); (try rw [hF7]); (try rw [hr8]); rw [if_neg c2, if_pos c4]
      have e1 : s_X6_demand_ac d p0 = kc (nI (kNoteD d)) := by rw [s_X6_demand_ac]; (try rw [hr1]); (try rw [hF7]); (try rw [hr8]); rw [if_neg c2, if_pos c4]
      have e2 : s_X6_demand_bo d pi aB p0 = kAO aB (kPi d pi) := by rw [s_X6_demand_bo]; (try rw [hr1]); (try rw [hF7]); (try rw [hr8]); rw [if_neg c2, if_pos c4]
      have e3 : s_X6_demand_gB d pi gN gB p0 = va_up gB (kPi d pi (kNoteD d - 1)) gN := by rw [s_X6_demand_gB]; (try rw [hr1]); (try rw [hF7]); (try rw [hr8]); rw [if_neg c2, if_pos c4]
      exact k_iret kx hK hP15 hD16 hS14 (u := (kg F7 (gN 1) (gN 2) (gN 3) (gN 4), kc (nI (kNoteD d)), kAO aB (kPi d pi), va_up gB (kPi d pi (kNoteD d - 1)) gN)) rfl ⟨er.symm, e0.symm, e1.symm, e2.symm, e3.symm⟩ dX6_demand_33
    · skip
      refine k_callr (kRunV (As := [.int p0]) (rest := []) kx (c_X5_endOf_n l G (gN 4) (aN 0) (aN 1) (aN 3) (aN 5) (aN 7) p0 c4) q_329 q_449 q_31 q_327 q_328 nX5_endOf ⟨Nat.le_of_ble_eq_true rfl, Nat.le_of_ble_eq_true rfl⟩ hK hP5 hD6 (kCtx_places _ _ [2] rfl rfl) 0 5 rfl rfl rfl rfl hl.1 (Nat.le_of_ble_eq_true rfl) dX6_demand_18 ⟨Nat.zero_le _, Nat.zero_le _⟩) hP5 hD6 hS4 hA (kCtx_places _ _ [2] rfl rfl) (fun _ => rfl) (fun r9 _ H17 locs17 hw hP17 hD17 hS17 => ?_)
      have hr9 : aN 3 = r9 := (show r9 = aN 3 from hw).symm
      subst hr9
      have hP18 : va_P G.1 vwCl ([(h0, .inr (6, cQ (kc (nI (kNoteD d))) t0 (aN 0) (aT 0) b0 s0 i0 e0 sd)), (b0, .inl (G.2.2.2, 14, .inr (.inr (.inr (.inr (kAO aB (kPi d pi)))))))] ++ (cW aN gN ++ (kWs aB (va_up gB (kPi d pi (kNoteD d - 1)) gN) n9))) H17 := hP17
      have hD19 : va_D A ([(h0, .inr (6, cQ (kc (nI (kNoteD d))) t0 (aN 0) (aT 0) b0 s0 i0 e0 sd)), (b0, .inl (G.2.2.2, 14, .inr (.inr (.inr (.inr (kAO aB (kPi d pi)))))))] ++ (cW aN gN ++ (kWs aB (va_up gB (kPi d pi (kNoteD d - 1)) gN) n9))) := hD17
      refine lv_astore_n (lv' := [(2, .ref (aN 3)), (0, .ref h0), (1, .int p0)]) hx hb dX6_demand_21 rfl hl (by decide) rfl (fun ls20 hl20 => ?_)
      refine lv_aload_n hx hb dX6_demand_22 rfl (lv_at hl20 0 rfl) ?_
      refine k_callv (kRunV (As := []) (rest := []) kx (c_X0_turnDemand l G (gN 1) (aN 3) (aN 4)) q_343 q_508 q_32 q_341 q_342 nX0_turnDemand ⟨Nat.le_of_ble_eq_true rfl, Nat.le_of_ble_eq_true rfl⟩ hK hP18 hD19 (kCtx_places _ _ [5, 6] rfl rfl) 0 0 rfl rfl rfl rfl hl20.1 (Nat.le_of_ble_eq_true rfl) dX6_demand_23 ⟨Nat.zero_le _, Nat.zero_le _⟩) hP18 hD19 hS17 hA (kCtx_places _ _ [5, 6] rfl rfl) (fun _ => rfl) (fun F11 H21 locs21 hw hP21 hD21 hS21 => ?_)
      have hF11 : s_X0_turnDemand_X (gN 1) = F11 := (show F11 = s_X0_turnDemand_X (gN 1) from hw).symm
      have hP22 : va_P G.1 vwCl ([(h0, .inr (6, cQ (kc (nI (kNoteD d))) t0 (aN 0) (aT 0) b0 s0 i0 e0 sd)), (b0, .inl (G.2.2.2, 14, .inr (.inr (.inr (.inr (kAO aB (kPi d pi)))))))] ++ (cW aN (kg (gN 0) F11 (gN 2) (gN 3) (gN 4)) ++ (kWs aB (va_up gB (kPi d pi (kNoteD d - 1)) gN) n9))) H21 := hP21
      have hD23 : va_D A ([(h0, .inr (6, cQ (kc (nI (kNoteD d))) t0 (aN 0) (aT 0) b0 s0 i0 e0 sd)), (b0, .inl (G.2.2.2, 14, .inr (.inr (.inr (.inr (kAO aB (kPi d pi)))))))] ++ (cW aN (kg (gN 0) F11 (gN 2) (gN 3) (gN 4)) ++ (kWs aB (va_up gB (kPi d pi (kNoteD d - 1)) gN) n9))) := hD21
      refine lv_aload_n hx hb dX6_demand_26 rfl (lv_at hl20 0 rfl) ?_
      refine va_get (ci := 0) (v := .int (F11 7)) (C := RX0) (T := TX0) (N := 12) hx hb ht inX0 hown hK.1 hP22 5 rfl rfl 9 (by decide) (ht _ q_124) (fun _ h9 => h9) rfl dX6_demand_27 ?_
      refine k_calli (kRunS (As := [.int (F11 7)]) (rest := []) kx (c_X6_oneIf l G (F11 7)) q_469 q_485 q_29 q_468 nX6_oneIf ⟨Nat.le_of_ble_eq_true rfl, Nat.le_of_ble_eq_true rfl⟩ hK hP22 hD23 (kCtx_nil _) rfl hl20.1 (Nat.le_of_ble_eq_true rfl) dX6_demand_30 ⟨Nat.zero_le _, Nat.zero_le _⟩) hP22 hD23 hS21 hA (kCtx_nil _) (fun _ => rfl) (fun r12 _ H24 locs24 hw hP24 hD24 hS24 => ?_)
      have hr12 : r_X6_oneIf (F11 7) = r12 := (show r12 = r_X6_oneIf (F11 7) from hw).symm
      have hP25 : va_P G.1 vwCl ([(h0, .inr (6, cQ (kc (nI (kNoteD d))) t0 (aN 0) (aT 0) b0 s0 i0 e0 sd)), (b0, .inl (G.2.2.2, 14, .inr (.inr (.inr (.inr (kAO aB (kPi d pi)))))))] ++ (cW aN (kg (gN 0) F11 (gN 2) (gN 3) (gN 4)) ++ (kWs aB (va_up gB (kPi d pi (kNoteD d - 1)) gN) n9))) H24 := hP24
      have hD26 : va_D A ([(h0, .inr (6, cQ (kc (nI (kNoteD d))) t0 (aN 0) (aT 0) b0 s0 i0 e0 sd)), (b0, .inl (G.2.2.2, 14, .inr (.inr (.inr (.inr (kAO aB (kPi d pi)))))))] ++ (cW aN (kg (gN 0) F11 (gN 2) (gN 3) (gN 4)) ++ (kWs aB (va_up gB (kPi d pi (kNoteD d - 1)) gN) n9))) := hD24
      have er : r_X6_demand gN p0 = r12 := by rw [r_X6_demand]; (try rw [hr1]); (try rw [hF11]); (try rw [hr12]); rw [if_neg c2, if_neg c4]
      have e0 : s_X6_demand_gN gN p0 = kg (gN 0) F11 (gN 2) (gN 3) (gN 4) := by rw [s_X6_demand_gN]; (try rw [hr1]); (try rw [hF11]); (try rw [hr12]); rw [if_neg c2, if_neg c4]
      have e1 : s_X6_demand_ac d p0 = kc (nI (kNoteD d)) := by rw [s_X6_demand_ac]; (try rw [hr1]); (try rw [hF11]); (try rw [hr12]); rw [if_neg c2, if_neg c4]
      have e2 : s_X6_demand_bo d pi aB p0 = kAO aB (kPi d pi) := by rw [s_X6_demand_bo]; (try rw [hr1]); (try rw [hF11]); (try rw [hr12]); rw [if_neg c2, if_neg c4]
      have e3 : s_X6_demand_gB d pi gN gB p0 = va_up gB (kPi d pi (kNoteD d - 1)) gN := by rw [s_X6_demand_gB]; (try rw [hr1]); (try rw [hF11]); (try rw [hr12]); rw [if_neg c2, if_neg c4]
      exact k_iret kx hK hP25 hD26 hS24 (u := (kg (gN 0) F11 (gN 2) (gN 3) (gN 4), kc (nI (kNoteD d)), kAO aB (kPi d pi), va_up gB (kPi d pi (kNoteD d - 1)) gN)) rfl ⟨er.symm, e0.symm, e1.symm, e2.symm, e3.symm⟩ dX6_demand_33
  · skip
    refine lv_iconst (v := (-1)) hx hb dX6_demand_7 (by decide) ?_
    have er : r_X6_demand gN p0 = (-1) := by rw [r_X6_demand]; (try rw [hr1]); rw [if_pos c2]
    have e0 : s_X6_demand_gN gN p0 = gN := by rw [s_X6_demand_gN]; (try rw [hr1]); rw [if_pos c2]
    have e1 : s_X6_demand_ac d p0 = kc (nI d) := by rw [s_X6_demand_ac]; (try rw [hr1]); rw [if_pos c2]
    have e2 : s_X6_demand_bo d pi aB p0 = kAO aB pi := by rw [s_X6_demand_bo]; (try rw [hr1]); rw [if_pos c2]
    have e3 : s_X6_demand_gB d pi gN gB p0 = gB := by rw [s_X6_demand_gB]; (try rw [hr1]); rw [if_pos c2]
    exact k_iret kx hK hP2 hD3 hS1 (u := (gN, kc (nI d), kAO aB pi, gB)) rfl ⟨er.symm, e0.symm, e1.symm, e2.symm, e3.symm⟩ dX6_demand_8

def r_X6_turn (gN : Nat → Nat → Int32) (p0 : Int32) : Int32 := if (r_X6_isZeroOrOne p0) = 0 then (-1) else if p0 = 0 then (r_X6_oneIf ((s_X4_turnOver_Y (gN 2)) 9)) else r_X6_oneIf ((s_X4_turnOver_Y (gN 3)) 9)
def s_X6_turn_gN (gN : Nat → Nat → Int32) (p0 : Int32) : Nat → Nat → Int32 := if (r_X6_isZeroOrOne p0) = 0 then gN else if p0 = 0 then (kg (gN 0) (gN 1) (s_X4_turnOver_Y (gN 2)) (gN 3) (gN 4)) else kg (gN 0) (gN 1) (gN 2) (s_X4_turnOver_Y (gN 3)) (gN 4)
def s_X6_turn_ac (d : Nat) (p0 : Int32) : Nat → Int32 := if (r_X6_isZeroOrOne p0) = 0 then (kc (nI d)) else if p0 = 0 then (kc (nI (kNoteD d))) else kc (nI (kNoteD d))
def s_X6_turn_bo (d : Nat) (pi : Nat → Nat) (aB : Nat → Nat → Nat) (p0 : Int32) : Nat → Option Nat := if (r_X6_isZeroOrOne p0) = 0 then (kAO aB pi) else if p0 = 0 then (kAO aB (kPi d pi)) else kAO aB (kPi d pi)
def s_X6_turn_gB (d : Nat) (pi : Nat → Nat) (gN : Nat → Nat → Int32) (gB : Nat → Nat → Nat → Int32) (p0 : Int32) : Nat → Nat → Nat → Int32 := if (r_X6_isZeroOrOne p0) = 0 then gB else if p0 = 0 then (va_up gB (kPi d pi (kNoteD d - 1)) gN) else va_up gB (kPi d pi (kNoteD d - 1)) gN
set_option maxHeartbeats 4000000 in
set_option maxRecDepth 100000 in
theorem c_X6_turn (l : Launch) (G : kG) (d : Nat) (sd : Int64) (h0 : Nat) (t0 : Nat) (aN : Nat → Nat) (aT : Nat → Nat) (b0 : Nat) (s0 : Nat) (i0 : Nat) (e0 : Nat) (n9 : Nat) (pi : Nat → Nat) (aB : Nat → Nat → Nat) (gN : Nat → Nat → Int32) (gB : Nat → Nat → Nat → Int32) (p0 : Int32) (hd : d ≤ 14) (hpi : ∀ i, i < 14 → pi i < 14) (h14 : n9 = 14) (hN : bW gN) : cG l G yX6_turn cX6_turn 3 (some .int) 4 [.ref h0, .int p0] ([(h0, .inr (6, cQ (kc (nI d)) t0 (aN 0) (aT 0) b0 s0 i0 e0 sd)), (b0, .inl (G.2.2.2, 14, .inr (.inr (.inr (.inr (kAO aB pi))))))] ++ (cW aN gN ++ (kWs aB gB n9))) (qI G (fun (r : Int32) (u : ((Nat → Nat → Int32) × (Nat → Int32) × (Nat → Option Nat) × (Nat → Nat → Nat → Int32))) => r = r_X6_turn gN p0 ∧ u.1 = s_X6_turn_gN gN p0 ∧ u.2.1 = s_X6_turn_ac d p0 ∧ u.2.2.1 = s_X6_turn_bo d pi aB p0 ∧ u.2.2.2 = s_X6_turn_gB d pi gN gB p0) (fun u => [(h0, .inr (6, cQ u.2.1 t0 (aN 0) (aT 0) b0 s0 i0 e0 sd)), (b0, .inl (G.2.2.2, 14, .inr (.inr (.inr (.inr u.2.2.1)))))] ++ (cW aN u.1 ++ (kWs aB u.2.2.2 n9)))) := by
  refine kintro (by decide) (Nat.le_of_ble_eq_true rfl) ?_
  intro p e s m args below meth c A ls kx hK hP hD hS hA hl
  have kx : kX p s m args meth c cX6_turn 3 (some .int) RX6 := kx
  have hx := kx.1
  have hb := kx.2.1
  have hown := kx.2.2.2.2.1
  have ht := kx.2.2.2.2.2.2
  have hl : lv_has ls 3 [(0, .ref h0), (1, .int p0)] := hl
  refine lv_iload_n hx hb dX6_turn_0 rfl (lv_at hl 1 rfl) ?_
  refine k_calli (kRunS (As := [.int p0]) (rest := []) kx (c_X6_isZeroOrOne l G p0) q_431 q_429 q_29 q_430 nX6_isZeroOrOne ⟨Nat.le_of_ble_eq_true rfl, Nat.le_of_ble_eq_true rfl⟩ hK hP hD (kCtx_nil _) rfl hl.1 (Nat.le_of_ble_eq_true rfl) dX6_turn_1 ⟨Nat.zero_le _, Nat.zero_le _⟩) hP hD hS hA (kCtx_nil _) (fun _ => rfl) (fun r1 _ H1 locs1 hw hP1 hD1 hS1 => ?_)
  have hr1 : r_X6_isZeroOrOne p0 = r1 := (show r1 = r_X6_isZeroOrOne p0 from hw).symm
  have hP2 : va_P G.1 vwCl ([(h0, .inr (6, cQ (kc (nI d)) t0 (aN 0) (aT 0) b0 s0 i0 e0 sd)), (b0, .inl (G.2.2.2, 14, .inr (.inr (.inr (.inr (kAO aB pi))))))] ++ (cW aN gN ++ (kWs aB gB n9))) H1 := hP1
  have hD3 : va_D A ([(h0, .inr (6, cQ (kc (nI d)) t0 (aN 0) (aT 0) b0 s0 i0 e0 sd)), (b0, .inl (G.2.2.2, 14, .inr (.inr (.inr (.inr (kAO aB pi))))))] ++ (cW aN gN ++ (kWs aB gB n9))) := hD1
  refine lv_if_ne (x := r1) (tgt := 9) hx hb dX6_turn_4 (by decide) (fun (c2 : ¬ (r1 = 0)) => ?_) (fun (c2 : r1 = 0) => ?_)
  · skip
    refine lv_aload_n hx hb dX6_turn_9 rfl (lv_at hl 0 rfl) ?_
    refine k_callv (kRunV (As := []) (rest := []) kx (c_X6_remember l G d sd h0 t0 aN aT b0 s0 i0 e0 n9 pi aB gN gB hd hpi h14 hN) q_493 q_490 q_29 q_492 q_5 nX6_remember ⟨Nat.le_of_ble_eq_true rfl, Nat.le_of_ble_eq_true rfl⟩ hK hP2 hD3 (kCtx_all _) 0 6 rfl rfl rfl rfl hl.1 (Nat.le_of_ble_eq_true rfl) dX6_turn_10 ⟨Nat.zero_le _, Nat.zero_le _⟩) hP2 hD3 hS1 hA (kCtx_all _) (fun _ => by simp only [List.length_append, kWs_len]; rfl) (fun _ H4 locs4 hw hP4 hD4 hS4 => ?_)
    have hP5 : va_P G.1 vwCl ([(h0, .inr (6, cQ (kc (nI (kNoteD d))) t0 (aN 0) (aT 0) b0 s0 i0 e0 sd)), (b0, .inl (G.2.2.2, 14, .inr (.inr (.inr (.inr (kAO aB (kPi d pi)))))))] ++ (cW aN gN ++ (kWs aB (va_up gB (kPi d pi (kNoteD d - 1)) gN) n9))) H4 := hP4
    have hD6 : va_D A ([(h0, .inr (6, cQ (kc (nI (kNoteD d))) t0 (aN 0) (aT 0) b0 s0 i0 e0 sd)), (b0, .inl (G.2.2.2, 14, .inr (.inr (.inr (.inr (kAO aB (kPi d pi)))))))] ++ (cW aN gN ++ (kWs aB (va_up gB (kPi d pi (kNoteD d - 1)) gN) n9))) := hD4
    refine lv_aload_n hx hb dX6_turn_13 rfl (lv_at hl 0 rfl) ?_
    refine va_get (ci := 6) (v := .ref (aN 0)) (C := RX6) (T := TX6) (N := 9) hx hb ht inX6 hown hK.1 hP5 0 rfl rfl 1 (by decide) (ht _ q_264) (fun _ h9 => h9) rfl dX6_turn_14 ?_
    refine lv_iload_n hx hb dX6_turn_17 rfl (lv_at hl 1 rfl) ?_
    by_cases c4 : p0 = 0
    · skip
      refine k_top (y := 0) c4 ?_
      refine k_callr (kRunV (As := [.int 0]) (rest := []) kx (c_X5_wayOf_0 l G (gN 4) (aN 0) (aN 1) (aN 3) (aN 5) (aN 7)) q_347 q_484 q_31 q_345 q_346 nX5_wayOf ⟨Nat.le_of_ble_eq_true rfl, Nat.le_of_ble_eq_true rfl⟩ hK hP5 hD6 (kCtx_places _ _ [2] rfl rfl) 0 5 rfl rfl rfl rfl hl.1 (Nat.le_of_ble_eq_true rfl) dX6_turn_18 ⟨Nat.zero_le _, Nat.zero_le _⟩) hP5 hD6 hS4 hA (kCtx_places _ _ [2] rfl rfl) (fun _ => rfl) (fun r5 _ H7 locs7 hw hP7 hD7 hS7 => ?_)
      have hr5 : aN 5 = r5 := (show r5 = aN 5 from hw).symm
      subst hr5
      have hP8 : va_P G.1 vwCl ([(h0, .inr (6, cQ (kc (nI (kNoteD d))) t0 (aN 0) (aT 0) b0 s0 i0 e0 sd)), (b0, .inl (G.2.2.2, 14, .inr (.inr (.inr (.inr (kAO aB (kPi d pi)))))))] ++ (cW aN gN ++ (kWs aB (va_up gB (kPi d pi (kNoteD d - 1)) gN) n9))) H7 := hP7
      have hD9 : va_D A ([(h0, .inr (6, cQ (kc (nI (kNoteD d))) t0 (aN 0) (aT 0) b0 s0 i0 e0 sd)), (b0, .inl (G.2.2.2, 14, .inr (.inr (.inr (.inr (kAO aB (kPi d pi)))))))] ++ (cW aN gN ++ (kWs aB (va_up gB (kPi d pi (kNoteD d - 1)) gN) n9))) := hD7
      refine lv_astore_n (lv' := [(2, .ref (aN 5)), (0, .ref h0), (1, .int p0)]) hx hb dX6_turn_21 rfl hl (by decide) rfl (fun ls10 hl10 => ?_)
      refine lv_aload_n hx hb dX6_turn_22 rfl (lv_at hl10 0 rfl) ?_
      refine k_callv (kRunV (As := []) (rest := []) kx (c_X4_turnOver l G (gN 2) (aN 5) (aN 6)) q_351 q_513 q_34 q_349 q_350 nX4_turnOver ⟨Nat.le_of_ble_eq_true rfl, Nat.le_of_ble_eq_true rfl⟩ hK hP8 hD9 (kCtx_places _ _ [7, 8] rfl rfl) 0 4 rfl rfl rfl rfl hl10.1 (Nat.le_of_ble_eq_true rfl) dX6_turn_23 ⟨Nat.zero_le _, Nat.zero_le _⟩) hP8 hD9 hS7 hA (kCtx_places _ _ [7, 8] rfl rfl) (fun _ => rfl) (fun F7 H11 locs11 hw hP11 hD11 hS11 => ?_)
      have hF7 : s_X4_turnOver_Y (gN 2) = F7 := (show F7 = s_X4_turnOver_Y (gN 2) from hw).symm
      have hP12 : va_P G.1 vwCl ([(h0, .inr (6, cQ (kc (nI (kNoteD d))) t0 (aN 0) (aT 0) b0 s0 i0 e0 sd)), (b0, .inl (G.2.2.2, 14, .inr (.inr (.inr (.inr (kAO aB (kPi d pi)))))))] ++ (cW aN (kg (gN 0) (gN 1) F7 (gN 3) (gN 4)) ++ (kWs aB (va_up gB (kPi d pi (kNoteD d - 1)) gN) n9))) H11 := hP11
      have hD13 : va_D A ([(h0, .inr (6, cQ (kc (nI (kNoteD d))) t0 (aN 0) (aT 0) b0 s0 i0 e0 sd)), (b0, .inl (G.2.2.2, 14, .inr (.inr (.inr (.inr (kAO aB (kPi d pi)))))))] ++ (cW aN (kg (gN 0) (gN 1) F7 (gN 3) (gN 4)) ++ (kWs aB (va_up gB (kPi d pi (kNoteD d - 1)) gN) n9))) := hD11
      refine lv_aload_n hx hb dX6_turn_26 rfl (lv_at hl10 0 rfl) ?_
      refine va_get (ci := 4) (v := .int (F7 9)) (C := RX4) (T := TX4) (N := 7) hx hb ht inX4 hown hK.1 hP12 7 rfl rfl 0 (by decide) (ht _ q_164) (fun _ h9 => h9) rfl dX6_turn_27 ?_
      refine k_calli (kRunS (As := [.int (F7 9)]) (rest := []) kx (c_X6_oneIf l G (F7 9)) q_469 q_485 q_29 q_468 nX6_oneIf ⟨Nat.le_of_ble_eq_true rfl, Nat.le_of_ble_eq_true rfl⟩ hK hP12 hD13 (kCtx_nil _) rfl hl10.1 (Nat.le_of_ble_eq_true rfl) dX6_turn_30 ⟨Nat.zero_le _, Nat.zero_le _⟩) hP12 hD13 hS11 hA (kCtx_nil _) (fun _ => rfl) (fun r8 _ H14 locs14 hw hP14 hD14 hS14 => ?_)
      have hr8 : r_X6_oneIf (F7 9) = r8 := (show r8 = r_X6_oneIf (F7 9) from hw).symm
      have hP15 : va_P G.1 vwCl ([(h0, .inr (6, cQ (kc (nI (kNoteD d))) t0 (aN 0) (aT 0) b0 s0 i0 e0 sd)), (b0, .inl (G.2.2.2, 14, .inr (.inr (.inr (.inr (kAO aB (kPi d pi)))))))] ++ (cW aN (kg (gN 0) (gN 1) F7 (gN 3) (gN 4)) ++ (kWs aB (va_up gB (kPi d pi (kNoteD d - 1)) gN) n9))) H14 := hP14
      have hD16 : va_D A ([(h0, .inr (6, cQ (kc (nI (kNoteD d))) t0 (aN 0) (aT 0) b0 s0 i0 e0 sd)), (b0, .inl (G.2.2.2, 14, .inr (.inr (.inr (.inr (kAO aB (kPi d pi)))))))] ++ (cW aN (kg (gN 0) (gN 1) F7 (gN 3) (gN 4)) ++ (kWs aB (va_up gB (kPi d pi (kNoteD d - 1)) gN) n9))) := hD14
      have er : r_X6_turn gN p0 = r8 := by rw [r_X6_turn]; (try rw [hr1]); (try rw [hF7]); (try rw [hr8]); rw [if_neg c2, if_pos c4]
      have e0 : s_X6_turn_gN gN p0 = kg (gN 0) (gN 1) F7 (gN 3) (gN 4) := by rw [s_X6_turn_gN]; (try rw [hr1]); (try rw [hF7]); (try rw [hr8]); rw [if_neg c2, if_pos c4]
      have e1 : s_X6_turn_ac d p0 = kc (nI (kNoteD d)) := by rw [s_X6_turn_ac]; (try rw [hr1]); (try rw [hF7]); (try rw [hr8]); rw [if_neg c2, if_pos c4]
      have e2 : s_X6_turn_bo d pi aB p0 = kAO aB (kPi d pi) := by rw [s_X6_turn_bo]; (try rw [hr1]); (try rw [hF7]); (try rw [hr8]); rw [if_neg c2, if_pos c4]
      have e3 : s_X6_turn_gB d pi gN gB p0 = va_up gB (kPi d pi (kNoteD d - 1)) gN := by rw [s_X6_turn_gB]; (try rw [hr1]); (try rw [hF7]); (try rw [hr8]); rw [if_neg c2, if_pos c4]
      exact k_iret kx hK hP15 hD16 hS14 (u := (kg (gN 0) (gN 1) F7 (gN 3) (gN 4), kc (nI (kNoteD d)), kAO aB (kPi d pi), va_up gB (kPi d pi (kNoteD d - 1)) gN)) rfl ⟨er.symm, e0.symm, e1.symm, e2.symm, e3.symm⟩ dX6_turn_33
    · skip
      refine k_callr (kRunV (As := [.int p0]) (rest := []) kx (c_X5_wayOf_n l G (gN 4) (aN 0) (aN 1) (aN 3) (aN 5) (aN 7) p0 c4) q_347 q_484 q_31 q_345 q_346 nX5_wayOf ⟨Nat.le_of_ble_eq_true rfl, Nat.le_of_ble_eq_true rfl⟩ hK hP5 hD6 (kCtx_places _ _ [2] rfl rfl) 0 5 rfl rfl rfl rfl hl.1 (Nat.le_of_ble_eq_true rfl) dX6_turn_18 ⟨Nat.zero_le _, Nat.zero_le _⟩) hP5 hD6 hS4 hA (kCtx_places _ _ [2] rfl rfl) (fun _ => rfl) (fun r9 _ H17 locs17 hw hP17 hD17 hS17 => ?_)
      have hr9 : aN 7 = r9 := (show r9 = aN 7 from hw).symm
      subst hr9
      have hP18 : va_P G.1 vwCl ([(h0, .inr (6, cQ (kc (nI (kNoteD d))) t0 (aN 0) (aT 0) b0 s0 i0 e0 sd)), (b0, .inl (G.2.2.2, 14, .inr (.inr (.inr (.inr (kAO aB (kPi d pi)))))))] ++ (cW aN gN ++ (kWs aB (va_up gB (kPi d pi (kNoteD d - 1)) gN) n9))) H17 := hP17
      have hD19 : va_D A ([(h0, .inr (6, cQ (kc (nI (kNoteD d))) t0 (aN 0) (aT 0) b0 s0 i0 e0 sd)), (b0, .inl (G.2.2.2, 14, .inr (.inr (.inr (.inr (kAO aB (kPi d pi)))))))] ++ (cW aN gN ++ (kWs aB (va_up gB (kPi d pi (kNoteD d - 1)) gN) n9))) := hD17
      refine lv_astore_n (lv' := [(2, .ref (aN 7)), (0, .ref h0), (1, .int p0)]) hx hb dX6_turn_21 rfl hl (by decide) rfl (fun ls20 hl20 => ?_)
      refine lv_aload_n hx hb dX6_turn_22 rfl (lv_at hl20 0 rfl) ?_
      refine k_callv (kRunV (As := []) (rest := []) kx (c_X4_turnOver l G (gN 3) (aN 7) (aN 8)) q_351 q_513 q_34 q_349 q_350 nX4_turnOver ⟨Nat.le_of_ble_eq_true rfl, Nat.le_of_ble_eq_true rfl⟩ hK hP18 hD19 (kCtx_places _ _ [9, 10] rfl rfl) 0 4 rfl rfl rfl rfl hl20.1 (Nat.le_of_ble_eq_true rfl) dX6_turn_23 ⟨Nat.zero_le _, Nat.zero_le _⟩) hP18 hD19 hS17 hA (kCtx_places _ _ [9, 10] rfl rfl) (fun _ => rfl) (fun F11 H21 locs21 hw hP21 hD21 hS21 => ?_)
      have hF11 : s_X4_turnOver_Y (gN 3) = F11 := (show F11 = s_X4_turnOver_Y (gN 3) from hw).symm
      have hP22 : va_P G.1 vwCl ([(h0, .inr (6, cQ (kc (nI (kNoteD d))) t0 (aN 0) (aT 0) b0 s0 i0 e0 sd)), (b0, .inl (G.2.2.2, 14, .inr (.inr (.inr (.inr (kAO aB (kPi d pi)))))))] ++ (cW aN (kg (gN 0) (gN 1) (gN 2) F11 (gN 4)) ++ (kWs aB (va_up gB (kPi d pi (kNoteD d - 1)) gN) n9))) H21 := hP21
      have hD23 : va_D A ([(h0, .inr (6, cQ (kc (nI (kNoteD d))) t0 (aN 0) (aT 0) b0 s0 i0 e0 sd)), (b0, .inl (G.2.2.2, 14, .inr (.inr (.inr (.inr (kAO aB (kPi d pi)))))))] ++ (cW aN (kg (gN 0) (gN 1) (gN 2) F11 (gN 4)) ++ (kWs aB (va_up gB (kPi d pi (kNoteD d - 1)) gN) n9))) := hD21
      refine lv_aload_n hx hb dX6_turn_26 rfl (lv_at hl20 0 rfl) ?_
      refine va_get (ci := 4) (v := .int (F11 9)) (C := RX4) (T := TX4) (N := 7) hx hb ht inX4 hown hK.1 hP22 9 rfl rfl 0 (by decide) (ht _ q_164) (fun _ h9 => h9) rfl dX6_turn_27 ?_
      refine k_calli (kRunS (As := [.int (F11 9)]) (rest := []) kx (c_X6_oneIf l G (F11 9)) q_469 q_485 q_29 q_468 nX6_oneIf ⟨Nat.le_of_ble_eq_true rfl, Nat.le_of_ble_eq_true rfl⟩ hK hP22 hD23 (kCtx_nil _) rfl hl20.1 (Nat.le_of_ble_eq_true rfl) dX6_turn_30 ⟨Nat.zero_le _, Nat.zero_le _⟩) hP22 hD23 hS21 hA (kCtx_nil _) (fun _ => rfl) (fun r12 _ H24 locs24 hw hP24 hD24 hS24 => ?_)
      have hr12 : r_X6_oneIf (F11 9) = r12 := (show r12 = r_X6_oneIf (F11 9) from hw).symm
      have hP25 : va_P G.1 vwCl ([(h0, .inr (6, cQ (kc (nI (kNoteD d))) t0 (aN 0) (aT 0) b0 s0 i0 e0 sd)), (b0, .inl (G.2.2.2, 14, .inr (.inr (.inr (.inr (kAO aB (kPi d pi)))))))] ++ (cW aN (kg (gN 0) (gN 1) (gN 2) F11 (gN 4)) ++ (kWs aB (va_up gB (kPi d pi (kNoteD d - 1)) gN) n9))) H24 := hP24
      have hD26 : va_D A ([(h0, .inr (6, cQ (kc (nI (kNoteD d))) t0 (aN 0) (aT 0) b0 s0 i0 e0 sd)), (b0, .inl (G.2.2.2, 14, .inr (.inr (.inr (.inr (kAO aB (kPi d pi)))))))] ++ (cW aN (kg (gN 0) (gN 1) (gN 2) F11 (gN 4)) ++ (kWs aB (va_up gB (kPi d pi (kNoteD d - 1)) gN) n9))) := hD24
      have er : r_X6_turn gN p0 = r12 := by rw [r_X6_turn]; (try rw [hr1]); (try rw [hF11]); (try rw [hr12]); rw [if_neg c2, if_neg c4]
      have e0 : s_X6_turn_gN gN p0 = kg (gN 0) (gN 1) (gN 2) F11 (gN 4) := by rw [s_X6_turn_gN]; (try rw [hr1]); (try rw [hF11]); (try rw [hr12]); rw [if_neg c2, if_neg c4]
      have e1 : s_X6_turn_ac d p0 = kc (nI (kNoteD d)) := by rw [s_X6_turn_ac]; (try rw [hr1]); (try rw [hF11]); (try rw [hr12]); rw [if_neg c2, if_neg c4]
      have e2 : s_X6_turn_bo d pi aB p0 = kAO aB (kPi d pi) := by rw [s_X6_turn_bo]; (try rw [hr1]); (try rw [hF11]); (try rw [hr12]); rw [if_neg c2, if_neg c4]
      have e3 : s_X6_turn_gB d pi gN gB p0 = va_up gB (kPi d pi (kNoteD d - 1)) gN := by rw [s_X6_turn_gB]; (try rw [hr1]); (try rw [hF11]); (try rw [hr12]); rw [if_neg c2, if_neg c4]
      exact k_iret kx hK hP25 hD26 hS24 (u := (kg (gN 0) (gN 1) (gN 2) F11 (gN 4), kc (nI (kNoteD d)), kAO aB (kPi d pi), va_up gB (kPi d pi (kNoteD d - 1)) gN)) rfl ⟨er.symm, e0.symm, e1.symm, e2.symm, e3.symm⟩ dX6_turn_33
  · skip
    refine lv_iconst (v := (-1)) hx hb dX6_turn_7 (by decide) ?_
    have er : r_X6_turn gN p0 = (-1) := by rw [r_X6_turn]; (try rw [hr1]); rw [if_pos c2]
    have e0 : s_X6_turn_gN gN p0 = gN := by rw [s_X6_turn_gN]; (try rw [hr1]); rw [if_pos c2]
    have e1 : s_X6_turn_ac d p0 = kc (nI d) := by rw [s_X6_turn_ac]; (try rw [hr1]); rw [if_pos c2]
    have e2 : s_X6_turn_bo d pi aB p0 = kAO aB pi := by rw [s_X6_turn_bo]; (try rw [hr1]); rw [if_pos c2]
    have e3 : s_X6_turn_gB d pi gN gB p0 = gB := by rw [s_X6_turn_gB]; (try rw [hr1]); rw [if_pos c2]
    exact k_iret kx hK hP2 hD3 hS1 (u := (gN, kc (nI d), kAO aB pi, gB)) rfl ⟨er.symm, e0.symm, e1.symm, e2.symm, e3.symm⟩ dX6_turn_8

def r_X6_poll (gN : Nat → Nat → Int32) (p0 : Int32) : Int32 := if (r_X6_isZeroOrOne p0) = 0 then (-1) else if p0 = 0 then (if (r_X0_canBePolled (gN 0)) = 0 then (-3) else r_X0_limit (upd (upd (upd (gN 0) 6 1) 8 0) 9 0)) else if (r_X0_canBePolled (gN 1)) = 0 then (-3) else r_X0_limit (upd (upd (upd (gN 1) 6 1) 8 0) 9 0)
def s_X6_poll_gN (gN : Nat → Nat → Int32) (p0 : Int32) : Nat → Nat → Int32 := if (r_X6_isZeroOrOne p0) = 0 then gN else if p0 = 0 then (if (r_X0_canBePolled (gN 0)) = 0 then gN else kg (upd (upd (upd (gN 0) 6 1) 8 0) 9 0) (gN 1) (gN 2) (gN 3) (gN 4)) else if (r_X0_canBePolled (gN 1)) = 0 then gN else kg (gN 0) (upd (upd (upd (gN 1) 6 1) 8 0) 9 0) (gN 2) (gN 3) (gN 4)
def s_X6_poll_ac (d : Nat) (gN : Nat → Nat → Int32) (p0 : Int32) : Nat → Int32 := if (r_X6_isZeroOrOne p0) = 0 then (kc (nI d)) else if p0 = 0 then (if (r_X0_canBePolled (gN 0)) = 0 then (kc (nI d)) else kc (nI (kNoteD d))) else if (r_X0_canBePolled (gN 1)) = 0 then (kc (nI d)) else kc (nI (kNoteD d))
def s_X6_poll_bo (d : Nat) (pi : Nat → Nat) (aB : Nat → Nat → Nat) (gN : Nat → Nat → Int32) (p0 : Int32) : Nat → Option Nat := if (r_X6_isZeroOrOne p0) = 0 then (kAO aB pi) else if p0 = 0 then (if (r_X0_canBePolled (gN 0)) = 0 then (kAO aB pi) else kAO aB (kPi d pi)) else if (r_X0_canBePolled (gN 1)) = 0 then (kAO aB pi) else kAO aB (kPi d pi)
def s_X6_poll_gB (d : Nat) (pi : Nat → Nat) (gN : Nat → Nat → Int32) (gB : Nat → Nat → Nat → Int32) (p0 : Int32) : Nat → Nat → Nat → Int32 := if (r_X6_isZeroOrOne p0) = 0 then gB else if p0 = 0 then (if (r_X0_canBePolled (gN 0)) = 0 then gB else va_up gB (kPi d pi (kNoteD d - 1)) gN) else if (r_X0_canBePolled (gN 1)) = 0 then gB else va_up gB (kPi d pi (kNoteD d - 1)) gN
set_option maxHeartbeats 4000000 in
set_option maxRecDepth 100000 in
theorem c_X6_poll (l : Launch) (G : kG) (d : Nat) (sd : Int64) (h0 : Nat) (t0 : Nat) (aN : Nat → Nat) (aT : Nat → Nat) (b0 : Nat) (s0 : Nat) (i0 : Nat) (e0 : Nat) (n9 : Nat) (pi : Nat → Nat) (aB : Nat → Nat → Nat) (gN : Nat → Nat → Int32) (gB : Nat → Nat → Nat → Int32) (p0 : Int32) (hd : d ≤ 14) (hpi : ∀ i, i < 14 → pi i < 14) (h14 : n9 = 14) (hN : bW gN) : cG l G yX6_poll cX6_poll 3 (some .int) 4 [.ref h0, .int p0] ([(h0, .inr (6, cQ (kc (nI d)) t0 (aN 0) (aT 0) b0 s0 i0 e0 sd)), (b0, .inl (G.2.2.2, 14, .inr (.inr (.inr (.inr (kAO aB pi))))))] ++ (cW aN gN ++ (kWs aB gB n9))) (qI G (fun (r : Int32) (u : ((Nat → Nat → Int32) × (Nat → Int32) × (Nat → Option Nat) × (Nat → Nat → Nat → Int32))) => r = r_X6_poll gN p0 ∧ u.1 = s_X6_poll_gN gN p0 ∧ u.2.1 = s_X6_poll_ac d gN p0 ∧ u.2.2.1 = s_X6_poll_bo d pi aB gN p0 ∧ u.2.2.2 = s_X6_poll_gB d pi gN gB p0) (fun u => [(h0, .inr (6, cQ u.2.1 t0 (aN 0) (aT 0) b0 s0 i0 e0 sd)), (b0, .inl (G.2.2.2, 14, .inr (.inr (.inr (.inr u.2.2.1)))))] ++ (cW aN u.1 ++ (kWs aB u.2.2.2 n9)))) := by
  refine kintro (by decide) (Nat.le_of_ble_eq_true rfl) ?_
  intro p e s m args below meth c A ls kx hK hP hD hS hA hl
  have kx : kX p s m args meth c cX6_poll 3 (some .int) RX6 := kx
  have hx := kx.1
  have hb := kx.2.1
  have hown := kx.2.2.2.2.1
  have ht := kx.2.2.2.2.2.2
  have hl : lv_has ls 3 [(0, .ref h0), (1, .int p0)] := hl
  refine lv_iload_n hx hb dX6_poll_0 rfl (lv_at hl 1 rfl) ?_
  refine k_calli (kRunS (As := [.int p0]) (rest := []) kx (c_X6_isZeroOrOne l G p0) q_431 q_429 q_29 q_430 nX6_isZeroOrOne ⟨Nat.le_of_ble_eq_true rfl, Nat.le_of_ble_eq_true rfl⟩ hK hP hD (kCtx_nil _) rfl hl.1 (Nat.le_of_ble_eq_true rfl) dX6_poll_1 ⟨Nat.zero_le _, Nat.zero_le _⟩) hP hD hS hA (kCtx_nil _) (fun _ => rfl) (fun r1 _ H1 locs1 hw hP1 hD1 hS1 => ?_)
  have hr1 : r_X6_isZeroOrOne p0 = r1 := (show r1 = r_X6_isZeroOrOne p0 from hw).symm
  have hP2 : va_P G.1 vwCl ([(h0, .inr (6, cQ (kc (nI d)) t0 (aN 0) (aT 0) b0 s0 i0 e0 sd)), (b0, .inl (G.2.2.2, 14, .inr (.inr (.inr (.inr (kAO aB pi))))))] ++ (cW aN gN ++ (kWs aB gB n9))) H1 := hP1
  have hD3 : va_D A ([(h0, .inr (6, cQ (kc (nI d)) t0 (aN 0) (aT 0) b0 s0 i0 e0 sd)), (b0, .inl (G.2.2.2, 14, .inr (.inr (.inr (.inr (kAO aB pi))))))] ++ (cW aN gN ++ (kWs aB gB n9))) := hD1
  refine lv_if_ne (x := r1) (tgt := 9) hx hb dX6_poll_4 (by decide) (fun (c2 : ¬ (r1 = 0)) => ?_) (fun (c2 : r1 = 0) => ?_)
  · skip
    refine lv_aload_n hx hb dX6_poll_9 rfl (lv_at hl 0 rfl) ?_
    refine va_get (ci := 6) (v := .ref (aN 0)) (C := RX6) (T := TX6) (N := 9) hx hb ht inX6 hown hK.1 hP2 0 rfl rfl 1 (by decide) (ht _ q_264) (fun _ h9 => h9) rfl dX6_poll_10 ?_
    refine lv_iload_n hx hb dX6_poll_13 rfl (lv_at hl 1 rfl) ?_
    by_cases c3 : p0 = 0
    · skip
      refine k_top (y := 0) c3 ?_
      refine k_callr (kRunV (As := [.int 0]) (rest := []) kx (c_X5_endOf_0 l G (gN 4) (aN 0) (aN 1) (aN 3) (aN 5) (aN 7)) q_329 q_449 q_31 q_327 q_328 nX5_endOf ⟨Nat.le_of_ble_eq_true rfl, Nat.le_of_ble_eq_true rfl⟩ hK hP2 hD3 (kCtx_places _ _ [2] rfl rfl) 0 5 rfl rfl rfl rfl hl.1 (Nat.le_of_ble_eq_true rfl) dX6_poll_14 ⟨Nat.zero_le _, Nat.zero_le _⟩) hP2 hD3 hS1 hA (kCtx_places _ _ [2] rfl rfl) (fun _ => rfl) (fun r4 _ H4 locs4 hw hP4 hD4 hS4 => ?_)
      have hr4 : aN 1 = r4 := (show r4 = aN 1 from hw).symm
      subst hr4
      have hP5 : va_P G.1 vwCl ([(h0, .inr (6, cQ (kc (nI d)) t0 (aN 0) (aT 0) b0 s0 i0 e0 sd)), (b0, .inl (G.2.2.2, 14, .inr (.inr (.inr (.inr (kAO aB pi))))))] ++ (cW aN gN ++ (kWs aB gB n9))) H4 := hP4
      have hD6 : va_D A ([(h0, .inr (6, cQ (kc (nI d)) t0 (aN 0) (aT 0) b0 s0 i0 e0 sd)), (b0, .inl (G.2.2.2, 14, .inr (.inr (.inr (.inr (kAO aB pi))))))] ++ (cW aN gN ++ (kWs aB gB n9))) := hD4
      refine lv_astore_n (lv' := [(2, .ref (aN 1)), (0, .ref h0), (1, .int p0)]) hx hb dX6_poll_17 rfl hl (by decide) rfl (fun ls7 hl7 => ?_)
      refine lv_aload_n hx hb dX6_poll_18 rfl (lv_at hl7 0 rfl) ?_
      refine k_calli (kRunV (As := []) (rest := []) kx (c_X0_canBePolled l G (gN 0) (aN 1) (aN 2)) q_521 q_518 q_32 q_519 q_520 nX0_canBePolled ⟨Nat.le_of_ble_eq_true rfl, Nat.le_of_ble_eq_true rfl⟩ hK hP5 hD6 (kCtx_places _ _ [3, 4] rfl rfl) 0 0 rfl rfl rfl rfl hl7.1 (Nat.le_of_ble_eq_true rfl) dX6_poll_19 ⟨Nat.zero_le _, Nat.zero_le _⟩) hP5 hD6 hS4 hA (kCtx_places _ _ [3, 4] rfl rfl) (fun _ => rfl) (fun r5 _ H8 locs8 hw hP8 hD8 hS8 => ?_)
      have hr5 : r_X0_canBePolled (gN 0) = r5 := (show r5 = r_X0_canBePolled (gN 0) from hw).symm
      have hP9 : va_P G.1 vwCl ([(h0, .inr (6, cQ (kc (nI d)) t0 (aN 0) (aT 0) b0 s0 i0 e0 sd)), (b0, .inl (G.2.2.2, 14, .inr (.inr (.inr (.inr (kAO aB pi))))))] ++ (cW aN gN ++ (kWs aB gB n9))) H8 := hP8
      have hD10 : va_D A ([(h0, .inr (6, cQ (kc (nI d)) t0 (aN 0) (aT 0) b0 s0 i0 e0 sd)), (b0, .inl (G.2.2.2, 14, .inr (.inr (.inr (.inr (kAO aB pi))))))] ++ (cW aN gN ++ (kWs aB gB n9))) := hD8
      refine lv_if_ne (x := r5) (tgt := 28) hx hb dX6_poll_22 (by decide) (fun (c6 : ¬ (r5 = 0)) => ?_) (fun (c6 : r5 = 0) => ?_)
      · skip
        refine lv_aload_n hx hb dX6_poll_28 rfl (lv_at hl7 1 rfl) ?_
        refine k_callv (kRunV (As := []) (rest := []) kx (c_X6_remember l G d sd h0 t0 aN aT b0 s0 i0 e0 n9 pi aB gN gB hd hpi h14 hN) q_493 q_490 q_29 q_492 q_5 nX6_remember ⟨Nat.le_of_ble_eq_true rfl, Nat.le_of_ble_eq_true rfl⟩ hK hP9 hD10 (kCtx_all _) 0 6 rfl rfl rfl rfl hl7.1 (Nat.le_of_ble_eq_true rfl) dX6_poll_29 ⟨Nat.zero_le _, Nat.zero_le _⟩) hP9 hD10 hS8 hA (kCtx_all _) (fun _ => by simp only [List.length_append, kWs_len]; rfl) (fun _ H11 locs11 hw hP11 hD11 hS11 => ?_)
        have hP12 : va_P G.1 vwCl ([(h0, .inr (6, cQ (kc (nI (kNoteD d))) t0 (aN 0) (aT 0) b0 s0 i0 e0 sd)), (b0, .inl (G.2.2.2, 14, .inr (.inr (.inr (.inr (kAO aB (kPi d pi)))))))] ++ (cW aN gN ++ (kWs aB (va_up gB (kPi d pi (kNoteD d - 1)) gN) n9))) H11 := hP11
        have hD13 : va_D A ([(h0, .inr (6, cQ (kc (nI (kNoteD d))) t0 (aN 0) (aT 0) b0 s0 i0 e0 sd)), (b0, .inl (G.2.2.2, 14, .inr (.inr (.inr (.inr (kAO aB (kPi d pi)))))))] ++ (cW aN gN ++ (kWs aB (va_up gB (kPi d pi (kNoteD d - 1)) gN) n9))) := hD11
        refine lv_aload_n hx hb dX6_poll_32 rfl (lv_at hl7 0 rfl) ?_
        refine k_callv (kRunV (As := []) (rest := []) kx (c_X0_startPoll l G (gN 0) (aN 1) (aN 2)) q_525 q_522 q_32 q_523 q_524 nX0_startPoll ⟨Nat.le_of_ble_eq_true rfl, Nat.le_of_ble_eq_true rfl⟩ hK hP12 hD13 (kCtx_places _ _ [3, 4] rfl rfl) 0 0 rfl rfl rfl rfl hl7.1 (Nat.le_of_ble_eq_true rfl) dX6_poll_33 ⟨Nat.zero_le _, Nat.zero_le _⟩) hP12 hD13 hS11 hA (kCtx_places _ _ [3, 4] rfl rfl) (fun _ => rfl) (fun _ H14 locs14 hw hP14 hD14 hS14 => ?_)
        have hP15 : va_P G.1 vwCl ([(h0, .inr (6, cQ (kc (nI (kNoteD d))) t0 (aN 0) (aT 0) b0 s0 i0 e0 sd)), (b0, .inl (G.2.2.2, 14, .inr (.inr (.inr (.inr (kAO aB (kPi d pi)))))))] ++ (cW aN (kg (upd (upd (upd (gN 0) 6 1) 8 0) 9 0) (gN 1) (gN 2) (gN 3) (gN 4)) ++ (kWs aB (va_up gB (kPi d pi (kNoteD d - 1)) gN) n9))) H14 := hP14
        have hD16 : va_D A ([(h0, .inr (6, cQ (kc (nI (kNoteD d))) t0 (aN 0) (aT 0) b0 s0 i0 e0 sd)), (b0, .inl (G.2.2.2, 14, .inr (.inr (.inr (.inr (kAO aB (kPi d pi)))))))] ++ (cW aN (kg (upd (upd (upd (gN 0) 6 1) 8 0) 9 0) (gN 1) (gN 2) (gN 3) (gN 4)) ++ (kWs aB (va_up gB (kPi d pi (kNoteD d - 1)) gN) n9))) := hD14
        refine lv_aload_n hx hb dX6_poll_36 rfl (lv_at hl7 0 rfl) ?_
        refine k_calli (kRunV (As := []) (rest := []) kx (c_X0_limit l G (upd (upd (upd (gN 0) 6 1) 8 0) 9 0) (aN 1) (aN 2)) q_399 q_526 q_32 q_397 q_398 nX0_limit ⟨Nat.le_of_ble_eq_true rfl, Nat.le_of_ble_eq_true rfl⟩ hK hP15 hD16 (kCtx_places _ _ [3, 4] rfl rfl) 0 0 rfl rfl rfl rfl hl7.1 (Nat.le_of_ble_eq_true rfl) dX6_poll_37 ⟨Nat.zero_le _, Nat.zero_le _⟩) hP15 hD16 hS14 hA (kCtx_places _ _ [3, 4] rfl rfl) (fun _ => rfl) (fun r9 _ H17 locs17 hw hP17 hD17 hS17 => ?_)
        have hr9 : r_X0_limit (upd (upd (upd (gN 0) 6 1) 8 0) 9 0) = r9 := (show r9 = r_X0_limit (upd (upd (upd (gN 0) 6 1) 8 0) 9 0) from hw).symm
        have hP18 : va_P G.1 vwCl ([(h0, .inr (6, cQ (kc (nI (kNoteD d))) t0 (aN 0) (aT 0) b0 s0 i0 e0 sd)), (b0, .inl (G.2.2.2, 14, .inr (.inr (.inr (.inr (kAO aB (kPi d pi)))))))] ++ (cW aN (kg (upd (upd (upd (gN 0) 6 1) 8 0) 9 0) (gN 1) (gN 2) (gN 3) (gN 4)) ++ (kWs aB (va_up gB (kPi d pi (kNoteD d - 1)) gN) n9))) H17 := hP17
        have hD19 : va_D A ([(h0, .inr (6, cQ (kc (nI (kNoteD d))) t0 (aN 0) (aT 0) b0 s0 i0 e0 sd)), (b0, .inl (G.2.2.2, 14, .inr (.inr (.inr (.inr (kAO aB (kPi d pi)))))))] ++ (cW aN (kg (upd (upd (upd (gN 0) 6 1) 8 0) 9 0) (gN 1) (gN 2) (gN 3) (gN 4)) ++ (kWs aB (va_up gB (kPi d pi (kNoteD d - 1)) gN) n9))) := hD17
        have er : r_X6_poll gN p0 = r9 := by rw [r_X6_poll]; (try rw [hr1]); (try rw [hr5]); (try rw [hr9]); rw [if_neg c2, if_pos c3, if_neg c6]
        have e0 : s_X6_poll_gN gN p0 = kg (upd (upd (upd (gN 0) 6 1) 8 0) 9 0) (gN 1) (gN 2) (gN 3) (gN 4) := by rw [s_X6_poll_gN]; (try rw [hr1]); (try rw [hr5]); (try rw [hr9]); rw [if_neg c2, if_pos c3, if_neg c6]
        have e1 : s_X6_poll_ac d gN p0 = kc (nI (kNoteD d)) := by rw [s_X6_poll_ac]; (try rw [hr1]); (try rw [hr5]); (try rw [hr9]); rw [if_neg c2, if_pos c3, if_neg c6]
        have e2 : s_X6_poll_bo d pi aB gN p0 = kAO aB (kPi d pi) := by rw [s_X6_poll_bo]; (try rw [hr1]); (try rw [hr5]); (try rw [hr9]); rw [if_neg c2, if_pos c3, if_neg c6]
        have e3 : s_X6_poll_gB d pi gN gB p0 = va_up gB (kPi d pi (kNoteD d - 1)) gN := by rw [s_X6_poll_gB]; (try rw [hr1]); (try rw [hr5]); (try rw [hr9]); rw [if_neg c2, if_pos c3, if_neg c6]
        exact k_iret kx hK hP18 hD19 hS17 (u := (kg (upd (upd (upd (gN 0) 6 1) 8 0) 9 0) (gN 1) (gN 2) (gN 3) (gN 4), kc (nI (kNoteD d)), kAO aB (kPi d pi), va_up gB (kPi d pi (kNoteD d - 1)) gN)) rfl ⟨er.symm, e0.symm, e1.symm, e2.symm, e3.symm⟩ dX6_poll_40
      · skip
        refine lv_bipush (v := (-3)) hx hb dX6_poll_25 (by decide) ?_
        have er : r_X6_poll gN p0 = (-3) := by rw [r_X6_poll]; (try rw [hr1]); (try rw [hr5]); rw [if_neg c2, if_pos c3, if_pos c6]
        have e0 : s_X6_poll_gN gN p0 = gN := by rw [s_X6_poll_gN]; (try rw [hr1]); (try rw [hr5]); rw [if_neg c2, if_pos c3, if_pos c6]
        have e1 : s_X6_poll_ac d gN p0 = kc (nI d) := by rw [s_X6_poll_ac]; (try rw [hr1]); (try rw [hr5]); rw [if_neg c2, if_pos c3, if_pos c6]
        have e2 : s_X6_poll_bo d pi aB gN p0 = kAO aB pi := by rw [s_X6_poll_bo]; (try rw [hr1]); (try rw [hr5]); rw [if_neg c2, if_pos c3, if_pos c6]
        have e3 : s_X6_poll_gB d pi gN gB p0 = gB := by rw [s_X6_poll_gB]; (try rw [hr1]); (try rw [hr5]); rw [if_neg c2, if_pos c3, if_pos c6]
        exact k_iret kx hK hP9 hD10 hS8 (u := (gN, kc (nI d), kAO aB pi, gB)) rfl ⟨er.symm, e0.symm, e1.symm, e2.symm, e3.symm⟩ dX6_poll_27
    · skip
      refine k_callr (kRunV (As := [.int p0]) (rest := []) kx (c_X5_endOf_n l G (gN 4) (aN 0) (aN 1) (aN 3) (aN 5) (aN 7) p0 c3) q_329 q_449 q_31 q_327 q_328 nX5_endOf ⟨Nat.le_of_ble_eq_true rfl, Nat.le_of_ble_eq_true rfl⟩ hK hP2 hD3 (kCtx_places _ _ [2] rfl rfl) 0 5 rfl rfl rfl rfl hl.1 (Nat.le_of_ble_eq_true rfl) dX6_poll_14 ⟨Nat.zero_le _, Nat.zero_le _⟩) hP2 hD3 hS1 hA (kCtx_places _ _ [2] rfl rfl) (fun _ => rfl) (fun r10 _ H20 locs20 hw hP20 hD20 hS20 => ?_)
      have hr10 : aN 3 = r10 := (show r10 = aN 3 from hw).symm
      subst hr10
      have hP21 : va_P G.1 vwCl ([(h0, .inr (6, cQ (kc (nI d)) t0 (aN 0) (aT 0) b0 s0 i0 e0 sd)), (b0, .inl (G.2.2.2, 14, .inr (.inr (.inr (.inr (kAO aB pi))))))] ++ (cW aN gN ++ (kWs aB gB n9))) H20 := hP20
      have hD22 : va_D A ([(h0, .inr (6, cQ (kc (nI d)) t0 (aN 0) (aT 0) b0 s0 i0 e0 sd)), (b0, .inl (G.2.2.2, 14, .inr (.inr (.inr (.inr (kAO aB pi))))))] ++ (cW aN gN ++ (kWs aB gB n9))) := hD20
      refine lv_astore_n (lv' := [(2, .ref (aN 3)), (0, .ref h0), (1, .int p0)]) hx hb dX6_poll_17 rfl hl (by decide) rfl (fun ls23 hl23 => ?_)
      refine lv_aload_n hx hb dX6_poll_18 rfl (lv_at hl23 0 rfl) ?_
      refine k_calli (kRunV (As := []) (rest := []) kx (c_X0_canBePolled l G (gN 1) (aN 3) (aN 4)) q_521 q_518 q_32 q_519 q_520 nX0_canBePolled ⟨Nat.le_of_ble_eq_true rfl, Nat.le_of_ble_eq_true rfl⟩ hK hP21 hD22 (kCtx_places _ _ [5, 6] rfl rfl) 0 0 rfl rfl rfl rfl hl23.1 (Nat.le_of_ble_eq_true rfl) dX6_poll_19 ⟨Nat.zero_le _, Nat.zero_le _⟩) hP21 hD22 hS20 hA (kCtx_places _ _ [5, 6] rfl rfl) (fun _ => rfl) (fun r11 _ H24 locs24 hw hP24 hD24 hS24 => ?_)
      have hr11 : r_X0_canBePolled (gN 1) = r11 := (show r11 = r_X0_canBePolled (gN 1) from hw).symm
      have hP25 : va_P G.1 vwCl ([(h0, .inr (6, cQ (kc (nI d)) t0 (aN 0) (aT 0) b0 s0 i0 e0 sd)), (b0, .inl (G.2.2.2, 14, .inr (.inr (.inr (.inr (kAO aB pi))))))] ++ (cW aN gN ++ (kWs aB gB n9))) H24 := hP24
      have hD26 : va_D A ([(h0, .inr (6, cQ (kc (nI d)) t0 (aN 0) (aT 0) b0 s0 i0 e0 sd)), (b0, .inl (G.2.2.2, 14, .inr (.inr (.inr (.inr (kAO aB pi))))))] ++ (cW aN gN ++ (kWs aB gB n9))) := hD24
      refine lv_if_ne (x := r11) (tgt := 28) hx hb dX6_poll_22 (by decide) (fun (c12 : ¬ (r11 = 0)) => ?_) (fun (c12 : r11 = 0) => ?_)
      · skip
        refine lv_aload_n hx hb dX6_poll_28 rfl (lv_at hl23 1 rfl) ?_
        refine k_callv (kRunV (As := []) (rest := []) kx (c_X6_remember l G d sd h0 t0 aN aT b0 s0 i0 e0 n9 pi aB gN gB hd hpi h14 hN) q_493 q_490 q_29 q_492 q_5 nX6_remember ⟨Nat.le_of_ble_eq_true rfl, Nat.le_of_ble_eq_true rfl⟩ hK hP25 hD26 (kCtx_all _) 0 6 rfl rfl rfl rfl hl23.1 (Nat.le_of_ble_eq_true rfl) dX6_poll_29 ⟨Nat.zero_le _, Nat.zero_le _⟩) hP25 hD26 hS24 hA (kCtx_all _) (fun _ => by simp only [List.length_append, kWs_len]; rfl) (fun _ H27 locs27 hw hP27 hD27 hS27 => ?_)
        have hP28 : va_P G.1 vwCl ([(h0, .inr (6, cQ (kc (nI (kNoteD d))) t0 (aN 0) (aT 0) b0 s0 i0 e0 sd)), (b0, .inl (G.2.2.2, 14, .inr (.inr (.inr (.inr (kAO aB (kPi d pi)))))))] ++ (cW aN gN ++ (kWs aB (va_up gB (kPi d pi (kNoteD d - 1)) gN) n9))) H27 := hP27
        have hD29 : va_D A ([(h0, .inr (6, cQ (kc (nI (kNoteD d))) t0 (aN 0) (aT 0) b0 s0 i0 e0 sd)), (b0, .inl (G.2.2.2, 14, .inr (.inr (.inr (.inr (kAO aB (kPi d pi)))))))] ++ (cW aN gN ++ (kWs aB (va_up gB (kPi d pi (kNoteD d - 1)) gN) n9))) := hD27
        refine lv_aload_n hx hb dX6_poll_32 rfl (lv_at hl23 0 rfl) ?_
        refine k_callv (kRunV (As := []) (rest := []) kx (c_X0_startPoll l G (gN 1) (aN 3) (aN 4)) q_525 q_522 q_32 q_523 q_524 nX0_startPoll ⟨Nat.le_of_ble_eq_true rfl, Nat.le_of_ble_eq_true rfl⟩ hK hP28 hD29 (kCtx_places _ _ [5, 6] rfl rfl) 0 0 rfl rfl rfl rfl hl23.1 (Nat.le_of_ble_eq_true rfl) dX6_poll_33 ⟨Nat.zero_le _, Nat.zero_le _⟩) hP28 hD29 hS27 hA (kCtx_places _ _ [5, 6] rfl rfl) (fun _ => rfl) (fun _ H30 locs30 hw hP30 hD30 hS30 => ?_)
        have hP31 : va_P G.1 vwCl ([(h0, .inr (6, cQ (kc (nI (kNoteD d))) t0 (aN 0) (aT 0) b0 s0 i0 e0 sd)), (b0, .inl (G.2.2.2, 14, .inr (.inr (.inr (.inr (kAO aB (kPi d pi)))))))] ++ (cW aN (kg (gN 0) (upd (upd (upd (gN 1) 6 1) 8 0) 9 0) (gN 2) (gN 3) (gN 4)) ++ (kWs aB (va_up gB (kPi d pi (kNoteD d - 1)) gN) n9))) H30 := hP30
        have hD32 : va_D A ([(h0, .inr (6, cQ (kc (nI (kNoteD d))) t0 (aN 0) (aT 0) b0 s0 i0 e0 sd)), (b0, .inl (G.2.2.2, 14, .inr (.inr (.inr (.inr (kAO aB (kPi d pi)))))))] ++ (cW aN (kg (gN 0) (upd (upd (upd (gN 1) 6 1) 8 0) 9 0) (gN 2) (gN 3) (gN 4)) ++ (kWs aB (va_up gB (kPi d pi (kNoteD d - 1)) gN) n9))) := hD30
        refine lv_aload_n hx hb dX6_poll_36 rfl (lv_at hl23 0 rfl) ?_
        refine k_calli (kRunV (As := []) (rest := []) kx (c_X0_limit l G (upd (upd (upd (gN 1) 6 1) 8 0) 9 0) (aN 3) (aN 4)) q_399 q_526 q_32 q_397 q_398 nX0_limit ⟨Nat.le_of_ble_eq_true rfl, Nat.le_of_ble_eq_true rfl⟩ hK hP31 hD32 (kCtx_places _ _ [5, 6] rfl rfl) 0 0 rfl rfl rfl rfl hl23.1 (Nat.le_of_ble_eq_true rfl) dX6_poll_37 ⟨Nat.zero_le _, Nat.zero_le _⟩) hP31 hD32 hS30 hA (kCtx_places _ _ [5, 6] rfl rfl) (fun _ => rfl) (fun r15 _ H33 locs33 hw hP33 hD33 hS33 => ?_)
        have hr15 : r_X0_limit (upd (upd (upd (gN 1) 6 1) 8 0) 9 0) = r15 := (show r15 = r_X0_limit (upd (upd (upd (gN 1) 6 1) 8 0) 9 0) from hw).symm
        have hP34 : va_P G.1 vwCl ([(h0, .inr (6, cQ (kc (nI (kNoteD d))) t0 (aN 0) (aT 0) b0 s0 i0 e0 sd)), (b0, .inl (G.2.2.2, 14, .inr (.inr (.inr (.inr (kAO aB (kPi d pi)))))))] ++ (cW aN (kg (gN 0) (upd (upd (upd (gN 1) 6 1) 8 0) 9 0) (gN 2) (gN 3) (gN 4)) ++ (kWs aB (va_up gB (kPi d pi (kNoteD d - 1)) gN) n9))) H33 := hP33
        have hD35 : va_D A ([(h0, .inr (6, cQ (kc (nI (kNoteD d))) t0 (aN 0) (aT 0) b0 s0 i0 e0 sd)), (b0, .inl (G.2.2.2, 14, .inr (.inr (.inr (.inr (kAO aB (kPi d pi)))))))] ++ (cW aN (kg (gN 0) (upd (upd (upd (gN 1) 6 1) 8 0) 9 0) (gN 2) (gN 3) (gN 4)) ++ (kWs aB (va_up gB (kPi d pi (kNoteD d - 1)) gN) n9))) := hD33
        have er : r_X6_poll gN p0 = r15 := by rw [r_X6_poll]; (try rw [hr1]); (try rw [hr11]); (try rw [hr15]); rw [if_neg c2, if_neg c3, if_neg c12]
        have e0 : s_X6_poll_gN gN p0 = kg (gN 0) (upd (upd (upd (gN 1) 6 1) 8 0) 9 0) (gN 2) (gN 3) (gN 4) := by rw [s_X6_poll_gN]; (try rw [hr1]); (try rw [hr11]); (try rw [hr15]); rw [if_neg c2, if_neg c3, if_neg c12]
        have e1 : s_X6_poll_ac d gN p0 = kc (nI (kNoteD d)) := by rw [s_X6_poll_ac]; (try rw [hr1]); (try rw [hr11]); (try rw [hr15]); rw [if_neg c2, if_neg c3, if_neg c12]
        have e2 : s_X6_poll_bo d pi aB gN p0 = kAO aB (kPi d pi) := by rw [s_X6_poll_bo]; (try rw [hr1]); (try rw [hr11]); (try rw [hr15]); rw [if_neg c2, if_neg c3, if_neg c12]
        have e3 : s_X6_poll_gB d pi gN gB p0 = va_up gB (kPi d pi (kNoteD d - 1)) gN := by rw [s_X6_poll_gB]; (try rw [hr1]); (try rw [hr11]); (try rw [hr15]); rw [if_neg c2, if_neg c3, if_neg c12]
        exact k_iret kx hK hP34 hD35 hS33 (u := (kg (gN 0) (upd (upd (upd (gN 1) 6 1) 8 0) 9 0) (gN 2) (gN 3) (gN 4), kc (nI (kNoteD d)), kAO aB (kPi d pi), va_up gB (kPi d pi (kNoteD d - 1)) gN)) rfl ⟨er.symm, e0.symm, e1.symm, e2.symm, e3.symm⟩ dX6_poll_40
      · skip
        refine lv_bipush (v := (-3)) hx hb dX6_poll_25 (by decide) ?_
        have er : r_X6_poll gN p0 = (-3) := by rw [r_X6_poll]; (try rw [hr1]); (try rw [hr11]); rw [if_neg c2, if_neg c3, if_pos c12]
        have e0 : s_X6_poll_gN gN p0 = gN := by rw [s_X6_poll_gN]; (try rw [hr1]); (try rw [hr11]); rw [if_neg c2, if_neg c3, if_pos c12]
        have e1 : s_X6_poll_ac d gN p0 = kc (nI d) := by rw [s_X6_poll_ac]; (try rw [hr1]); (try rw [hr11]); rw [if_neg c2, if_neg c3, if_pos c12]
        have e2 : s_X6_poll_bo d pi aB gN p0 = kAO aB pi := by rw [s_X6_poll_bo]; (try rw [hr1]); (try rw [hr11]); rw [if_neg c2, if_neg c3, if_pos c12]
        have e3 : s_X6_poll_gB d pi gN gB p0 = gB := by rw [s_X6_poll_gB]; (try rw [hr1]); (try rw [hr11]); rw [if_neg c2, if_neg c3, if_pos c12]
        exact k_iret kx hK hP25 hD26 hS24 (u := (gN, kc (nI d), kAO aB pi, gB)) rfl ⟨er.symm, e0.symm, e1.symm, e2.symm, e3.symm⟩ dX6_poll_27
  · skip
    refine lv_iconst (v := (-1)) hx hb dX6_poll_7 (by decide) ?_
    have er : r_X6_poll gN p0 = (-1) := by rw [r_X6_poll]; (try rw [hr1]); rw [if_pos c2]
    have e0 : s_X6_poll_gN gN p0 = gN := by rw [s_X6_poll_gN]; (try rw [hr1]); rw [if_pos c2]
    have e1 : s_X6_poll_ac d gN p0 = kc (nI d) := by rw [s_X6_poll_ac]; (try rw [hr1]); rw [if_pos c2]
    have e2 : s_X6_poll_bo d pi aB gN p0 = kAO aB pi := by rw [s_X6_poll_bo]; (try rw [hr1]); rw [if_pos c2]
    have e3 : s_X6_poll_gB d pi gN gB p0 = gB := by rw [s_X6_poll_gB]; (try rw [hr1]); rw [if_pos c2]
    exact k_iret kx hK hP2 hD3 hS1 (u := (gN, kc (nI d), kAO aB pi, gB)) rfl ⟨er.symm, e0.symm, e1.symm, e2.symm, e3.symm⟩ dX6_poll_8

def r_X6_undo (d : Nat) : Int32 := if nI d < 1 then (-3) else (nI d) - 1
def s_X6_undo_gN (d : Nat) (pi : Nat → Nat) (gN : Nat → Nat → Int32) (gB : Nat → Nat → Nat → Int32) : Nat → Nat → Int32 := if nI d < 1 then gN else (gB (pi (d - 1)))
def s_X6_undo_ac (d : Nat) : Nat → Int32 := if nI d < 1 then (kc (nI d)) else kc ((nI d) - 1)
set_option maxHeartbeats 4000000 in
set_option maxRecDepth 100000 in
theorem c_X6_undo (l : Launch) (G : kG) (d : Nat) (sd : Int64) (h0 : Nat) (t0 : Nat) (aN : Nat → Nat) (aT : Nat → Nat) (b0 : Nat) (s0 : Nat) (i0 : Nat) (e0 : Nat) (n9 : Nat) (pi : Nat → Nat) (aB : Nat → Nat → Nat) (gN : Nat → Nat → Int32) (gB : Nat → Nat → Nat → Int32) (hd : d ≤ 14) (hpi : ∀ i, i < 14 → pi i < 14) (h14 : n9 = 14) (hB : ∀ i, i < 14 → bW (gB i)) : cG l G yX6_undo cX6_undo 1 (some .int) 3 [.ref h0] ([(h0, .inr (6, cQ (kc (nI d)) t0 (aN 0) (aT 0) b0 s0 i0 e0 sd)), (b0, .inl (G.2.2.2, 14, .inr (.inr (.inr (.inr (kAO aB pi))))))] ++ (cW aN gN ++ (kWs aB gB n9))) (qI G (fun (r : Int32) (u : ((Nat → Nat → Int32) × (Nat → Int32))) => r = r_X6_undo d ∧ u.1 = s_X6_undo_gN d pi gN gB ∧ u.2 = s_X6_undo_ac d) (fun u => [(h0, .inr (6, cQ u.2 t0 (aN 0) (aT 0) b0 s0 i0 e0 sd)), (b0, .inl (G.2.2.2, 14, .inr (.inr (.inr (.inr (kAO aB pi))))))] ++ (cW aN u.1 ++ (kWs aB gB n9)))) := by
  refine kintro (by decide) (Nat.le_of_ble_eq_true rfl) ?_
  intro p e s m args below meth c A ls kx hK hP hD hS hA hl
  have kx : kX p s m args meth c cX6_undo 1 (some .int) RX6 := kx
  have hx := kx.1
  have hb := kx.2.1
  have hown := kx.2.2.2.2.1
  have ht := kx.2.2.2.2.2.2
  have hl : lv_has ls 1 [(0, .ref h0)] := hl
  refine lv_aload_n hx hb dX6_undo_0 rfl (lv_at hl 0 rfl) ?_
  refine va_get (ci := 6) (v := .int (nI d)) (C := RX6) (T := TX6) (N := 9) hx hb ht inX6 hown hK.1 hP 0 rfl rfl 4 (by decide) (ht _ q_267) (fun _ h9 => h9) rfl dX6_undo_1 ?_
  refine lv_iconst (v := 1) hx hb dX6_undo_4 (by decide) ?_
  refine lv_icmp_lt (x := nI d) (y := 1) (tgt := 17) hx hb dX6_undo_5 (by decide) (fun (c1 : nI d < 1) => ?_) (fun (c1 : ¬ (nI d < 1)) => ?_)
  · skip
    refine lv_bipush (v := (-3)) hx hb dX6_undo_17 (by decide) ?_
    have er : r_X6_undo d = (-3) := by rw [r_X6_undo, if_pos c1]
    have e0 : s_X6_undo_gN d pi gN gB = gN := by rw [s_X6_undo_gN, if_pos c1]
    have e1 : s_X6_undo_ac d = kc (nI d) := by rw [s_X6_undo_ac, if_pos c1]
    exact k_iret kx hK hP hD hS (u := (gN, kc (nI d))) rfl ⟨er.symm, e0.symm, e1.symm⟩ dX6_undo_19
  · skip
    refine lv_aload_n hx hb dX6_undo_8 rfl (lv_at hl 0 rfl) ?_
    refine va_get (ci := 6) (v := .int (nI d)) (C := RX6) (T := TX6) (N := 9) hx hb ht inX6 hown hK.1 hP 0 rfl rfl 4 (by decide) (ht _ q_267) (fun _ h9 => h9) rfl dX6_undo_9 ?_
    refine lv_bipush (v := 14) hx hb dX6_undo_12 (by decide) ?_
    refine lv_icmp_le (x := nI d) (y := 14) (tgt := 20) hx hb dX6_undo_14 (by decide) (fun (c2 : nI d ≤ 14) => ?_) (fun (c2 : ¬ (nI d ≤ 14)) => absurd (show nI d ≤ nI 14 from nI_le hd (by decide)) c2)
    have hd1 : 1 ≤ d := kge1 hd c1
    refine lv_aload_n hx hb dX6_undo_20 rfl (lv_at hl 0 rfl) ?_
    refine lv_dup hx hb dX6_undo_21 rfl ?_
    refine va_get (ci := 6) (v := .int (nI d)) (C := RX6) (T := TX6) (N := 9) hx hb ht inX6 hown hK.1 hP 0 rfl rfl 4 (by decide) (ht _ q_267) (fun _ h9 => h9) rfl dX6_undo_22 ?_
    refine lv_iconst (v := 1) hx hb dX6_undo_25 (by decide) ?_
    refine lv_isub hx hb dX6_undo_26 ?_
    refine va_put (ci := 6) (v := .int ((nI d) - 1)) (ty := .int) (C := RX6) (T := TX6) (N := 9) hx hb ht inX6 tyX6 tyX6_ok nmX6 hown hK.1 hP hD hS 0 rfl rfl 4 (by decide) (ht _ q_267) (fun _ h9 => h9) rfl (by decide +kernel) rfl rfl (Nat.le_of_ble_eq_true rfl) dX6_undo_27 (fun H1 locs1 hP1 hD1 hS1 => ?_)
    have hP2 : va_P G.1 vwCl ([(h0, .inr (6, cQ (kc ((nI d) - 1)) t0 (aN 0) (aT 0) b0 s0 i0 e0 sd)), (b0, .inl (G.2.2.2, 14, .inr (.inr (.inr (.inr (kAO aB pi))))))] ++ (cW aN gN ++ (kWs aB gB n9))) H1 := hP1
    have hD3 : va_D A ([(h0, .inr (6, cQ (kc ((nI d) - 1)) t0 (aN 0) (aT 0) b0 s0 i0 e0 sd)), (b0, .inl (G.2.2.2, 14, .inr (.inr (.inr (.inr (kAO aB pi))))))] ++ (cW aN gN ++ (kWs aB gB n9))) := hD1
    refine lv_aload_n hx hb dX6_undo_30 rfl (lv_at hl 0 rfl) ?_
    refine va_get (ci := 6) (v := .ref (aN 0)) (C := RX6) (T := TX6) (N := 9) hx hb ht inX6 hown hK.1 hP2 0 rfl rfl 1 (by decide) (ht _ q_264) (fun _ h9 => h9) rfl dX6_undo_31 ?_
    refine lv_aload_n hx hb dX6_undo_34 rfl (lv_at hl 0 rfl) ?_
    refine va_get (ci := 6) (v := .ref b0) (C := RX6) (T := TX6) (N := 9) hx hb ht inX6 hown hK.1 hP2 0 rfl rfl 3 (by decide) (ht _ q_266) (fun _ h9 => h9) rfl dX6_undo_35 ?_
    refine lv_aload_n hx hb dX6_undo_38 rfl (lv_at hl 0 rfl) ?_
    refine va_get (ci := 6) (v := .int ((nI d) - 1)) (C := RX6) (T := TX6) (N := 9) hx hb ht inX6 hown hK.1 hP2 0 rfl rfl 4 (by decide) (ht _ q_267) (fun _ h9 => h9) rfl dX6_undo_39 ?_
    refine k_aald (v := (aB (pi (d - 1))) 0) kx hK hP2 1 rfl (d - 1) (ksub rfl rfl (by omega)) (by omega) (by decide) rfl dX6_undo_42 ?_
    have hP4 : va_P G.1 vwCl ([(h0, .inr (6, cQ (kc ((nI d) - 1)) t0 (aN 0) (aT 0) b0 s0 i0 e0 sd)), (b0, .inl (G.2.2.2, 14, .inr (.inr (.inr (.inr (kAO aB pi))))))] ++ (cW aN gN ++ (cW (aB (pi (d - 1))) (gB (pi (d - 1))) ++ (kWsO aB gB (pi (d - 1)) n9)))) _ := kP_perm (List.Perm.append_left _ (List.Perm.append_left _ (kWs_open (lt14 h14 (hpi _ (by omega)))))) hP2
    have hD5 : va_D A ([(h0, .inr (6, cQ (kc ((nI d) - 1)) t0 (aN 0) (aT 0) b0 s0 i0 e0 sd)), (b0, .inl (G.2.2.2, 14, .inr (.inr (.inr (.inr (kAO aB pi))))))] ++ (cW aN gN ++ (cW (aB (pi (d - 1))) (gB (pi (d - 1))) ++ (kWsO aB gB (pi (d - 1)) n9)))) := kD_perm (List.Perm.append_left _ (List.Perm.append_left _ (kWs_open (lt14 h14 (hpi _ (by omega)))))) hD3
    refine k_callv (kRunV (As := [.ref ((aB (pi (d - 1))) 0)]) (rest := []) kx (c_X5_copyFrom l G gN (gB (pi (d - 1))) aN (aB (pi (d - 1))) (hB _ (hpi _ (by omega)))) q_439 q_436 q_31 q_437 q_438 nX5_copyFrom ⟨Nat.le_of_ble_eq_true rfl, Nat.le_of_ble_eq_true rfl⟩ hK hP4 hD5 (kCtx_in (kCtx_two _ _ _)) 0 5 rfl rfl rfl rfl hl.1 (Nat.le_of_ble_eq_true rfl) dX6_undo_43 ⟨Nat.zero_le _, Nat.zero_le _⟩) hP4 hD5 hS1 hA (kCtx_in (kCtx_two _ _ _)) (fun _ => rfl) (fun _ H6 locs6 hw hP6 hD6 hS6 => ?_)
    have hP7 : va_P G.1 vwCl ([(h0, .inr (6, cQ (kc ((nI d) - 1)) t0 (aN 0) (aT 0) b0 s0 i0 e0 sd)), (b0, .inl (G.2.2.2, 14, .inr (.inr (.inr (.inr (kAO aB pi))))))] ++ (cW aN (gB (pi (d - 1))) ++ (cW (aB (pi (d - 1))) (gB (pi (d - 1))) ++ (kWsO aB gB (pi (d - 1)) n9)))) H6 := hP6
    have hD8 : va_D A ([(h0, .inr (6, cQ (kc ((nI d) - 1)) t0 (aN 0) (aT 0) b0 s0 i0 e0 sd)), (b0, .inl (G.2.2.2, 14, .inr (.inr (.inr (.inr (kAO aB pi))))))] ++ (cW aN (gB (pi (d - 1))) ++ (cW (aB (pi (d - 1))) (gB (pi (d - 1))) ++ (kWsO aB gB (pi (d - 1)) n9)))) := hD6
    have hP9 : va_P G.1 vwCl ([(h0, .inr (6, cQ (kc ((nI d) - 1)) t0 (aN 0) (aT 0) b0 s0 i0 e0 sd)), (b0, .inl (G.2.2.2, 14, .inr (.inr (.inr (.inr (kAO aB pi))))))] ++ (cW aN (gB (pi (d - 1))) ++ (kWs aB gB n9))) _ := kP_perm (List.Perm.append_left _ (List.Perm.append_left _ ((kWs_open (lt14 h14 (hpi _ (by omega)))).symm))) hP7
    have hD10 : va_D A ([(h0, .inr (6, cQ (kc ((nI d) - 1)) t0 (aN 0) (aT 0) b0 s0 i0 e0 sd)), (b0, .inl (G.2.2.2, 14, .inr (.inr (.inr (.inr (kAO aB pi))))))] ++ (cW aN (gB (pi (d - 1))) ++ (kWs aB gB n9))) := kD_perm (List.Perm.append_left _ (List.Perm.append_left _ ((kWs_open (lt14 h14 (hpi _ (by omega)))).symm))) hD8
    refine lv_aload_n hx hb dX6_undo_46 rfl (lv_at hl 0 rfl) ?_
    refine va_get (ci := 6) (v := .int ((nI d) - 1)) (C := RX6) (T := TX6) (N := 9) hx hb ht inX6 hown hK.1 hP9 0 rfl rfl 4 (by decide) (ht _ q_267) (fun _ h9 => h9) rfl dX6_undo_47 ?_
    have er : r_X6_undo d = (nI d) - 1 := by rw [r_X6_undo, if_neg c1]
    have e0 : s_X6_undo_gN d pi gN gB = (gB (pi (d - 1))) := by rw [s_X6_undo_gN, if_neg c1]
    have e1 : s_X6_undo_ac d = kc ((nI d) - 1) := by rw [s_X6_undo_ac, if_neg c1]
    exact k_iret kx hK hP9 hD10 hS6 (u := ((gB (pi (d - 1))), kc ((nI d) - 1))) rfl ⟨er.symm, e0.symm, e1.symm⟩ dX6_undo_50
