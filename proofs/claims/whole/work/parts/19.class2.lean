theorem knle6_of {z : Nat} (hz : z ≤ 6) (h : ¬ (6 : Int32) ≤ nI z) : z < 6 := by
  rcases Nat.lt_or_ge z 6 with q | q
  · exact q
  · exact absurd (nI_le q (by omega)) h

def r_X6_see (z0 : Nat) (p0 : Int32) (p1 : Int32) (p2 : Int32) : Int32 := if (r_X6_isZeroOrOne p1) = 0 then (-1) else if p0 < 0 then (-2) else if 99 < p0 then (-2) else if p2 < 0 then (-2) else if p2 ≤ 2 then (if nI z0 < 6 then ((nI z0) + 1) else (-4)) else (-2)
def s_X6_see_sz (z0 : Nat) (p0 : Int32) (p1 : Int32) (p2 : Int32) : Nat → Int32 := if (r_X6_isZeroOrOne p1) = 0 then (kc (nI z0)) else if p0 < 0 then (kc (nI z0)) else if 99 < p0 then (kc (nI z0)) else if p2 < 0 then (kc (nI z0)) else if p2 ≤ 2 then (if nI z0 < 6 then (kc ((nI z0) + 1)) else kc (nI z0)) else kc (nI z0)
def s_X6_see_tk (z0 : Nat) (tk : Nat → Int32) (p0 : Int32) (p1 : Int32) (p2 : Int32) : Nat → Int32 := if (r_X6_isZeroOrOne p1) = 0 then tk else if p0 < 0 then tk else if 99 < p0 then tk else if p2 < 0 then tk else if p2 ≤ 2 then (if nI z0 < 6 then (upd tk z0 p0) else tk) else tk
def s_X6_see_en (z0 : Nat) (en : Nat → Int32) (p0 : Int32) (p1 : Int32) (p2 : Int32) : Nat → Int32 := if (r_X6_isZeroOrOne p1) = 0 then en else if p0 < 0 then en else if 99 < p0 then en else if p2 < 0 then en else if p2 ≤ 2 then (if nI z0 < 6 then (upd en z0 p1) else en) else en
def s_X6_see_mo (z0 : Nat) (mo : Nat → Int32) (p0 : Int32) (p1 : Int32) (p2 : Int32) : Nat → Int32 := if (r_X6_isZeroOrOne p1) = 0 then mo else if p0 < 0 then mo else if 99 < p0 then mo else if p2 < 0 then mo else if p2 ≤ 2 then (if nI z0 < 6 then (upd mo z0 p2) else mo) else mo
set_option maxHeartbeats 4000000 in
set_option maxRecDepth 100000 in
theorem c_X6_see (l : Launch) (G : kG) (cA : Int32) (sd : Int64) (h0 : Nat) (t0 : Nat) (aN : Nat → Nat) (aT : Nat → Nat) (b0 : Nat) (s0 : Nat) (i0 : Nat) (e0 : Nat) (z0 : Nat) (tk : Nat → Int32) (en : Nat → Int32) (mo : Nat → Int32) (e1 : Nat) (e2 : Nat) (e3 : Nat) (p0 : Int32) (p1 : Int32) (p2 : Int32) (hz : z0 ≤ 6) : cG l G yX6_see cX6_see 4 (some .int) 1 [.ref h0, .int p0, .int p1, .int p2] ([(h0, .inr (6, cQ (kc cA) t0 (aN 0) (aT 0) b0 s0 i0 e0 sd)), (e0, .inr (1, cS (kc (nI z0)) e1 e2 e3)), (e1, .inl (G.2.1, 6, .inl tk)), (e2, .inl (G.2.1, 6, .inl en)), (e3, .inl (G.2.1, 6, .inl mo))]) (qI G (fun (r : Int32) (u : ((Nat → Int32) × (Nat → Int32) × (Nat → Int32) × (Nat → Int32))) => r = r_X6_see z0 p0 p1 p2 ∧ u.1 = s_X6_see_sz z0 p0 p1 p2 ∧ u.2.1 = s_X6_see_tk z0 tk p0 p1 p2 ∧ u.2.2.1 = s_X6_see_en z0 en p0 p1 p2 ∧ u.2.2.2 = s_X6_see_mo z0 mo p0 p1 p2) (fun u => [(h0, .inr (6, cQ (kc cA) t0 (aN 0) (aT 0) b0 s0 i0 e0 sd)), (e0, .inr (1, cS u.1 e1 e2 e3)), (e1, .inl (G.2.1, 6, .inl u.2.1)), (e2, .inl (G.2.1, 6, .inl u.2.2.1)), (e3, .inl (G.2.1, 6, .inl u.2.2.2))])) := by
  refine kintro (by decide) (Nat.le_of_ble_eq_true rfl) ?_
  intro p e s m args below meth c A ls kx hK hP hD hS hA hl
  have kx : kX p s m args meth c cX6_see 4 (some .int) RX6 := kx
  have hx := kx.1
  have hb := kx.2.1
  have hown := kx.2.2.2.2.1
  have ht := kx.2.2.2.2.2.2
  have hl : lv_has ls 4 [(0, .ref h0), (1, .int p0), (2, .int p1), (3, .int p2)] := hl
  refine lv_iload_n hx hb dX6_see_0 rfl (lv_at hl 2 rfl) ?_
  refine k_calli (kRunS (As := [.int p1]) (rest := []) kx (c_X6_isZeroOrOne l G p1) q_431 q_429 q_29 q_430 nX6_isZeroOrOne ⟨Nat.le_of_ble_eq_true rfl, Nat.le_of_ble_eq_true rfl⟩ hK hP hD (kCtx_nil _) rfl hl.1 (Nat.le_of_ble_eq_true rfl) dX6_see_1 ⟨Nat.zero_le _, Nat.zero_le _⟩) hP hD hS hA (kCtx_nil _) (fun _ => rfl) (fun r1 _ H1 locs1 hw hP1 hD1 hS1 => ?_)
  have hr1 : r_X6_isZeroOrOne p1 = r1 := (show r1 = r_X6_isZeroOrOne p1 from hw).symm
  have hP2 : va_P G.1 vwCl ([(h0, .inr (6, cQ (kc cA) t0 (aN 0) (aT 0) b0 s0 i0 e0 sd)), (e0, .inr (1, cS (kc (nI z0)) e1 e2 e3)), (e1, .inl (G.2.1, 6, .inl tk)), (e2, .inl (G.2.1, 6, .inl en)), (e3, .inl (G.2.1, 6, .inl mo))]) H1 := hP1
  have hD3 : va_D A ([(h0, .inr (6, cQ (kc cA) t0 (aN 0) (aT 0) b0 s0 i0 e0 sd)), (e0, .inr (1, cS (kc (nI z0)) e1 e2 e3)), (e1, .inl (G.2.1, 6, .inl tk)), (e2, .inl (G.2.1, 6, .inl en)), (e3, .inl (G.2.1, 6, .inl mo))]) := hD1
  refine lv_if_ne (x := r1) (tgt := 9) hx hb dX6_see_4 (by decide) (fun (c2 : ¬ (r1 = 0)) => ?_) (fun (c2 : r1 = 0) => ?_)
  · skip
    refine lv_iload_n hx hb dX6_see_9 rfl (lv_at hl 1 rfl) ?_
    refine lv_if_lt (x := p0) (tgt := 28) hx hb dX6_see_10 (by decide) (fun (c3 : p0 < 0) => ?_) (fun (c3 : ¬ (p0 < 0)) => ?_)
    · skip
      refine lv_bipush (v := (-2)) hx hb dX6_see_28 (by decide) ?_
      have er : r_X6_see z0 p0 p1 p2 = (-2) := by rw [r_X6_see]; (try rw [hr1]); rw [if_neg c2, if_pos c3]
      have e0 : s_X6_see_sz z0 p0 p1 p2 = kc (nI z0) := by rw [s_X6_see_sz]; (try rw [hr1]); rw [if_neg c2, if_pos c3]
      have e1 : s_X6_see_tk z0 tk p0 p1 p2 = tk := by rw [s_X6_see_tk]; (try rw [hr1]); rw [if_neg c2, if_pos c3]
      have e2 : s_X6_see_en z0 en p0 p1 p2 = en := by rw [s_X6_see_en]; (try rw [hr1]); rw [if_neg c2, if_pos c3]
      have e3 : s_X6_see_mo z0 mo p0 p1 p2 = mo := by rw [s_X6_see_mo]; (try rw [hr1]); rw [if_neg c2, if_pos c3]
      exact k_iret kx hK hP2 hD3 hS1 (u := (kc (nI z0), tk, en, mo)) rfl ⟨er.symm, e0.symm, e1.symm, e2.symm, e3.symm⟩ dX6_see_30
    · skip
      refine lv_iload_n hx hb dX6_see_13 rfl (lv_at hl 1 rfl) ?_
      refine lv_bipush (v := 99) hx hb dX6_see_14 (by decide) ?_
      refine lv_icmp_gt (x := p0) (y := 99) (tgt := 28) hx hb dX6_see_16 (by decide) (fun (c4 : 99 < p0) => ?_) (fun (c4 : ¬ (99 < p0)) => ?_)
      · skip
        refine lv_bipush (v := (-2)) hx hb dX6_see_28 (by decide) ?_
        have er : r_X6_see z0 p0 p1 p2 = (-2) := by rw [r_X6_see]; (try rw [hr1]); rw [if_neg c2, if_neg c3, if_pos c4]
        have e0 : s_X6_see_sz z0 p0 p1 p2 = kc (nI z0) := by rw [s_X6_see_sz]; (try rw [hr1]); rw [if_neg c2, if_neg c3, if_pos c4]
        have e1 : s_X6_see_tk z0 tk p0 p1 p2 = tk := by rw [s_X6_see_tk]; (try rw [hr1]); rw [if_neg c2, if_neg c3, if_pos c4]
        have e2 : s_X6_see_en z0 en p0 p1 p2 = en := by rw [s_X6_see_en]; (try rw [hr1]); rw [if_neg c2, if_neg c3, if_pos c4]
        have e3 : s_X6_see_mo z0 mo p0 p1 p2 = mo := by rw [s_X6_see_mo]; (try rw [hr1]); rw [if_neg c2, if_neg c3, if_pos c4]
        exact k_iret kx hK hP2 hD3 hS1 (u := (kc (nI z0), tk, en, mo)) rfl ⟨er.symm, e0.symm, e1.symm, e2.symm, e3.symm⟩ dX6_see_30
      · skip
        refine lv_iload_n hx hb dX6_see_19 rfl (lv_at hl 3 rfl) ?_
        refine lv_if_lt (x := p2) (tgt := 28) hx hb dX6_see_20 (by decide) (fun (c5 : p2 < 0) => ?_) (fun (c5 : ¬ (p2 < 0)) => ?_)
        · skip
          refine lv_bipush (v := (-2)) hx hb dX6_see_28 (by decide) ?_
          have er : r_X6_see z0 p0 p1 p2 = (-2) := by rw [r_X6_see]; (try rw [hr1]); rw [if_neg c2, if_neg c3, if_neg c4, if_pos c5]
          have e0 : s_X6_see_sz z0 p0 p1 p2 = kc (nI z0) := by rw [s_X6_see_sz]; (try rw [hr1]); rw [if_neg c2, if_neg c3, if_neg c4, if_pos c5]
          have e1 : s_X6_see_tk z0 tk p0 p1 p2 = tk := by rw [s_X6_see_tk]; (try rw [hr1]); rw [if_neg c2, if_neg c3, if_neg c4, if_pos c5]
          have e2 : s_X6_see_en z0 en p0 p1 p2 = en := by rw [s_X6_see_en]; (try rw [hr1]); rw [if_neg c2, if_neg c3, if_neg c4, if_pos c5]
          have e3 : s_X6_see_mo z0 mo p0 p1 p2 = mo := by rw [s_X6_see_mo]; (try rw [hr1]); rw [if_neg c2, if_neg c3, if_neg c4, if_pos c5]
          exact k_iret kx hK hP2 hD3 hS1 (u := (kc (nI z0), tk, en, mo)) rfl ⟨er.symm, e0.symm, e1.symm, e2.symm, e3.symm⟩ dX6_see_30
        · skip
          refine lv_iload_n hx hb dX6_see_23 rfl (lv_at hl 3 rfl) ?_
          refine lv_iconst (v := 2) hx hb dX6_see_24 (by decide) ?_
          refine lv_icmp_le (x := p2) (y := 2) (tgt := 31) hx hb dX6_see_25 (by decide) (fun (c6 : p2 ≤ 2) => ?_) (fun (c6 : ¬ (p2 ≤ 2)) => ?_)
          · skip
            refine lv_aload_n hx hb dX6_see_31 rfl (lv_at hl 0 rfl) ?_
            refine va_get (ci := 6) (v := .ref e0) (C := RX6) (T := TX6) (N := 9) hx hb ht inX6 hown hK.1 hP2 0 rfl rfl 7 (by decide) (ht _ q_270) (fun _ h9 => h9) rfl dX6_see_32 ?_
            refine va_get (ci := 1) (v := .int (nI z0)) (C := RX1) (T := TX1) (N := 4) hx hb ht inX1 hown hK.1 hP2 1 rfl rfl 3 (by decide) (ht _ q_252) (fun _ h9 => h9) rfl dX6_see_35 ?_
            refine lv_bipush (v := 6) hx hb dX6_see_38 (by decide) ?_
            refine lv_icmp_lt (x := nI z0) (y := 6) (tgt := 46) hx hb dX6_see_40 (by decide) (fun (c7 : nI z0 < 6) => ?_) (fun (c7 : ¬ (nI z0 < 6)) => ?_)
            · skip
              refine lv_aload_n hx hb dX6_see_46 rfl (lv_at hl 0 rfl) ?_
              refine va_get (ci := 6) (v := .ref e0) (C := RX6) (T := TX6) (N := 9) hx hb ht inX6 hown hK.1 hP2 0 rfl rfl 7 (by decide) (ht _ q_270) (fun _ h9 => h9) rfl dX6_see_47 ?_
              refine lv_iload_n hx hb dX6_see_50 rfl (lv_at hl 1 rfl) ?_
              refine lv_iload_n hx hb dX6_see_51 rfl (lv_at hl 2 rfl) ?_
              refine lv_iload_n hx hb dX6_see_52 rfl (lv_at hl 3 rfl) ?_
              refine k_callv (kRunV (As := [.int p0, .int p1, .int p2]) (rest := []) kx (c_X1_add l G z0 tk en mo e0 e1 e2 e3 p0 p1 p2 ((nI_ltI (a := z0) (b := 6) (by omega) (by decide)).mp (show nI z0 < nI 6 from c7))) q_566 q_563 q_35 q_564 q_565 nX1_add ⟨Nat.le_of_ble_eq_true rfl, Nat.le_of_ble_eq_true rfl⟩ hK hP2 hD3 (kCtx_places _ _ [1, 2, 3, 4] rfl rfl) 0 1 rfl rfl rfl rfl hl.1 (Nat.le_of_ble_eq_true rfl) dX6_see_53 ⟨Nat.zero_le _, Nat.zero_le _⟩) hP2 hD3 hS1 hA (kCtx_places _ _ [1, 2, 3, 4] rfl rfl) (fun _ => rfl) (fun _ H4 locs4 hw hP4 hD4 hS4 => ?_)
              have hP5 : va_P G.1 vwCl ([(h0, .inr (6, cQ (kc cA) t0 (aN 0) (aT 0) b0 s0 i0 e0 sd)), (e0, .inr (1, cS (kc ((nI z0) + 1)) e1 e2 e3)), (e1, .inl (G.2.1, 6, .inl (upd tk z0 p0))), (e2, .inl (G.2.1, 6, .inl (upd en z0 p1))), (e3, .inl (G.2.1, 6, .inl (upd mo z0 p2)))]) H4 := hP4
              have hD6 : va_D A ([(h0, .inr (6, cQ (kc cA) t0 (aN 0) (aT 0) b0 s0 i0 e0 sd)), (e0, .inr (1, cS (kc ((nI z0) + 1)) e1 e2 e3)), (e1, .inl (G.2.1, 6, .inl (upd tk z0 p0))), (e2, .inl (G.2.1, 6, .inl (upd en z0 p1))), (e3, .inl (G.2.1, 6, .inl (upd mo z0 p2)))]) := hD4
              refine lv_aload_n hx hb dX6_see_56 rfl (lv_at hl 0 rfl) ?_
              refine va_get (ci := 6) (v := .ref e0) (C := RX6) (T := TX6) (N := 9) hx hb ht inX6 hown hK.1 hP5 0 rfl rfl 7 (by decide) (ht _ q_270) (fun _ h9 => h9) rfl dX6_see_57 ?_
              refine va_get (ci := 1) (v := .int ((nI z0) + 1)) (C := RX1) (T := TX1) (N := 4) hx hb ht inX1 hown hK.1 hP5 1 rfl rfl 3 (by decide) (ht _ q_252) (fun _ h9 => h9) rfl dX6_see_60 ?_
              have er : r_X6_see z0 p0 p1 p2 = (nI z0) + 1 := by rw [r_X6_see]; (try rw [hr1]); rw [if_neg c2, if_neg c3, if_neg c4, if_neg c5, if_pos c6, if_pos c7]
              have e0 : s_X6_see_sz z0 p0 p1 p2 = kc ((nI z0) + 1) := by rw [s_X6_see_sz]; (try rw [hr1]); rw [if_neg c2, if_neg c3, if_neg c4, if_neg c5, if_pos c6, if_pos c7]
              have e1 : s_X6_see_tk z0 tk p0 p1 p2 = upd tk z0 p0 := by rw [s_X6_see_tk]; (try rw [hr1]); rw [if_neg c2, if_neg c3, if_neg c4, if_neg c5, if_pos c6, if_pos c7]
              have e2 : s_X6_see_en z0 en p0 p1 p2 = upd en z0 p1 := by rw [s_X6_see_en]; (try rw [hr1]); rw [if_neg c2, if_neg c3, if_neg c4, if_neg c5, if_pos c6, if_pos c7]
              have e3 : s_X6_see_mo z0 mo p0 p1 p2 = upd mo z0 p2 := by rw [s_X6_see_mo]; (try rw [hr1]); rw [if_neg c2, if_neg c3, if_neg c4, if_neg c5, if_pos c6, if_pos c7]
              exact k_iret kx hK hP5 hD6 hS4 (u := (kc ((nI z0) + 1), upd tk z0 p0, upd en z0 p1, upd mo z0 p2)) rfl ⟨er.symm, e0.symm, e1.symm, e2.symm, e3.symm⟩ dX6_see_63
            · skip
              refine lv_bipush (v := (-4)) hx hb dX6_see_43 (by decide) ?_
              have er : r_X6_see z0 p0 p1 p2 = (-4) := by rw [r_X6_see]; (try rw [hr1]); rw [if_neg c2, if_neg c3, if_neg c4, if_neg c5, if_pos c6, if_neg c7]
              have e0 : s_X6_see_sz z0 p0 p1 p2 = kc (nI z0) := by rw [s_X6_see_sz]; (try rw [hr1]); rw [if_neg c2, if_neg c3, if_neg c4, if_neg c5, if_pos c6, if_neg c7]
              have e1 : s_X6_see_tk z0 tk p0 p1 p2 = tk := by rw [s_X6_see_tk]; (try rw [hr1]); rw [if_neg c2, if_neg c3, if_neg c4, if_neg c5, if_pos c6, if_neg c7]
              have e2 : s_X6_see_en z0 en p0 p1 p2 = en := by rw [s_X6_see_en]; (try rw [hr1]); rw [if_neg c2, if_neg c3, if_neg c4, if_neg c5, if_pos c6, if_neg c7]
              have e3 : s_X6_see_mo z0 mo p0 p1 p2 = mo := by rw [s_X6_see_mo]; (try rw [hr1]); rw [if_neg c2, if_neg c3, if_neg c4, if_neg c5, if_pos c6, if_neg c7]
              exact k_iret kx hK hP2 hD3 hS1 (u := (kc (nI z0), tk, en, mo)) rfl ⟨er.symm, e0.symm, e1.symm, e2.symm, e3.symm⟩ dX6_see_45
          · skip
            refine lv_bipush (v := (-2)) hx hb dX6_see_28 (by decide) ?_
            have er : r_X6_see z0 p0 p1 p2 = (-2) := by rw [r_X6_see]; (try rw [hr1]); rw [if_neg c2, if_neg c3, if_neg c4, if_neg c5, if_neg c6]
            have e0 : s_X6_see_sz z0 p0 p1 p2 = kc (nI z0) := by rw [s_X6_see_sz]; (try rw [hr1]); rw [if_neg c2, if_neg c3, if_neg c4, if_neg c5, if_neg c6]
            have e1 : s_X6_see_tk z0 tk p0 p1 p2 = tk := by rw [s_X6_see_tk]; (try rw [hr1]); rw [if_neg c2, if_neg c3, if_neg c4, if_neg c5, if_neg c6]
            have e2 : s_X6_see_en z0 en p0 p1 p2 = en := by rw [s_X6_see_en]; (try rw [hr1]); rw [if_neg c2, if_neg c3, if_neg c4, if_neg c5, if_neg c6]
            have e3 : s_X6_see_mo z0 mo p0 p1 p2 = mo := by rw [s_X6_see_mo]; (try rw [hr1]); rw [if_neg c2, if_neg c3, if_neg c4, if_neg c5, if_neg c6]
            exact k_iret kx hK hP2 hD3 hS1 (u := (kc (nI z0), tk, en, mo)) rfl ⟨er.symm, e0.symm, e1.symm, e2.symm, e3.symm⟩ dX6_see_30
  · skip
    refine lv_iconst (v := (-1)) hx hb dX6_see_7 (by decide) ?_
    have er : r_X6_see z0 p0 p1 p2 = (-1) := by rw [r_X6_see]; (try rw [hr1]); rw [if_pos c2]
    have e0 : s_X6_see_sz z0 p0 p1 p2 = kc (nI z0) := by rw [s_X6_see_sz]; (try rw [hr1]); rw [if_pos c2]
    have e1 : s_X6_see_tk z0 tk p0 p1 p2 = tk := by rw [s_X6_see_tk]; (try rw [hr1]); rw [if_pos c2]
    have e2 : s_X6_see_en z0 en p0 p1 p2 = en := by rw [s_X6_see_en]; (try rw [hr1]); rw [if_pos c2]
    have e3 : s_X6_see_mo z0 mo p0 p1 p2 = mo := by rw [s_X6_see_mo]; (try rw [hr1]); rw [if_pos c2]
    exact k_iret kx hK hP2 hD3 hS1 (u := (kc (nI z0), tk, en, mo)) rfl ⟨er.symm, e0.symm, e1.symm, e2.symm, e3.symm⟩ dX6_see_8

set_option maxHeartbeats 4000000 in
set_option maxRecDepth 100000 in
theorem c_X6_unsee (l : Launch) (G : kG) (cA : Int32) (sd : Int64) (h0 : Nat) (t0 : Nat) (aN : Nat → Nat) (aT : Nat → Nat) (b0 : Nat) (s0 : Nat) (i0 : Nat) (e0 : Nat) (z0 : Nat) (tk : Nat → Int32) (en : Nat → Int32) (mo : Nat → Int32) (e1 : Nat) (e2 : Nat) (e3 : Nat) : cG l G yX6_unsee cX6_unsee 2 (some .int) 0 [.ref h0] ([(h0, .inr (6, cQ (kc cA) t0 (aN 0) (aT 0) b0 s0 i0 e0 sd)), (e0, .inr (1, cS (kc (nI z0)) e1 e2 e3)), (e1, .inl (G.2.1, 6, .inl tk)), (e2, .inl (G.2.1, 6, .inl en)), (e3, .inl (G.2.1, 6, .inl mo))]) (qI G (fun (r : Int32) (_ : Unit) => r = nI z0) (fun _ => [(h0, .inr (6, cQ (kc cA) t0 (aN 0) (aT 0) b0 s0 i0 e0 sd)), (e0, .inr (1, cS (kc 0) e1 e2 e3)), (e1, .inl (G.2.1, 6, .inl tk)), (e2, .inl (G.2.1, 6, .inl en)), (e3, .inl (G.2.1, 6, .inl mo))])) := by
  refine kintro (by decide) (Nat.le_of_ble_eq_true rfl) ?_
  intro p e s m args below meth c A ls kx hK hP hD hS hA hl
  have kx : kX p s m args meth c cX6_unsee 2 (some .int) RX6 := kx
  have hx := kx.1
  have hb := kx.2.1
  have hown := kx.2.2.2.2.1
  have ht := kx.2.2.2.2.2.2
  have hl : lv_has ls 2 [(0, .ref h0)] := hl
  refine lv_aload_n hx hb dX6_unsee_0 rfl (lv_at hl 0 rfl) ?_
  refine va_get (ci := 6) (v := .ref e0) (C := RX6) (T := TX6) (N := 9) hx hb ht inX6 hown hK.1 hP 0 rfl rfl 7 (by decide) (ht _ q_270) (fun _ h9 => h9) rfl dX6_unsee_1 ?_
  refine va_get (ci := 1) (v := .int (nI z0)) (C := RX1) (T := TX1) (N := 4) hx hb ht inX1 hown hK.1 hP 1 rfl rfl 3 (by decide) (ht _ q_252) (fun _ h9 => h9) rfl dX6_unsee_4 ?_
  refine lv_istore_n (lv' := [(1, .int (nI z0)), (0, .ref h0)]) hx hb dX6_unsee_7 rfl hl (by decide) rfl (fun ls1 hl1 => ?_)
  refine lv_aload_n hx hb dX6_unsee_8 rfl (lv_at hl1 1 rfl) ?_
  refine va_get (ci := 6) (v := .ref e0) (C := RX6) (T := TX6) (N := 9) hx hb ht inX6 hown hK.1 hP 0 rfl rfl 7 (by decide) (ht _ q_270) (fun _ h9 => h9) rfl dX6_unsee_9 ?_
  refine lv_iconst (v := 0) hx hb dX6_unsee_12 (by decide) ?_
  refine va_put (ci := 1) (v := .int 0) (ty := .int) (C := RX1) (T := TX1) (N := 4) hx hb ht inX1 tyX1 tyX1_ok nmX1 hown hK.1 hP hD hS 1 rfl rfl 3 (by decide) (ht _ q_252) (fun _ h9 => h9) rfl (by decide +kernel) rfl rfl (Nat.le_of_ble_eq_true rfl) dX6_unsee_13 (fun H2 locs2 hP2 hD2 hS2 => ?_)
  have hP3 : va_P G.1 vwCl ([(h0, .inr (6, cQ (kc cA) t0 (aN 0) (aT 0) b0 s0 i0 e0 sd)), (e0, .inr (1, cS (kc 0) e1 e2 e3)), (e1, .inl (G.2.1, 6, .inl tk)), (e2, .inl (G.2.1, 6, .inl en)), (e3, .inl (G.2.1, 6, .inl mo))]) H2 := hP2
  have hD4 : va_D A ([(h0, .inr (6, cQ (kc cA) t0 (aN 0) (aT 0) b0 s0 i0 e0 sd)), (e0, .inr (1, cS (kc 0) e1 e2 e3)), (e1, .inl (G.2.1, 6, .inl tk)), (e2, .inl (G.2.1, 6, .inl en)), (e3, .inl (G.2.1, 6, .inl mo))]) := hD2
  refine lv_iload_n hx hb dX6_unsee_16 rfl (lv_at hl1 0 rfl) ?_
  exact k_iret kx hK hP3 hD4 hS2 (u := ()) rfl rfl dX6_unsee_17

set_option maxHeartbeats 4000000 in
set_option maxRecDepth 100000 in
theorem c_X6_seed (l : Launch) (G : kG) (cA : Int32) (sd : Int64) (h0 : Nat) (t0 : Nat) (aN : Nat → Nat) (aT : Nat → Nat) (b0 : Nat) (s0 : Nat) (i0 : Nat) (e0 : Nat) (p0 : Int64) : cG l G yX6_seed cX6_seed 5 (some .long) 0 [.ref h0, .long p0] ([(h0, .inr (6, cQ (kc cA) t0 (aN 0) (aT 0) b0 s0 i0 e0 sd))]) (qL G (fun (r : Int64) (_ : Unit) => r = sd) (fun _ => [(h0, .inr (6, cQ (kc cA) t0 (aN 0) (aT 0) b0 s0 i0 e0 p0))])) := by
  refine kintro (by decide) (Nat.le_of_ble_eq_true rfl) ?_
  intro p e s m args below meth c A ls kx hK hP hD hS hA hl
  have kx : kX p s m args meth c cX6_seed 5 (some .long) RX6 := kx
  have hx := kx.1
  have hb := kx.2.1
  have hown := kx.2.2.2.2.1
  have ht := kx.2.2.2.2.2.2
  have hl : lv_has ls 5 [(0, .ref h0), (1, .long p0)] := hl
  refine lv_aload_n hx hb dX6_seed_0 rfl (lv_at hl 0 rfl) ?_
  refine va_get (ci := 6) (v := .long sd) (C := RX6) (T := TX6) (N := 9) hx hb ht inX6 hown hK.1 hP 0 rfl rfl 8 (by decide) (ht _ q_271) (fun _ h9 => h9) rfl dX6_seed_1 ?_
  refine lv_lstore_n (lv' := [(3, .long sd), (0, .ref h0), (1, .long p0)]) hx hb dX6_seed_4 rfl hl (by decide) rfl (fun ls1 hl1 => ?_)
  refine lv_aload_n hx hb dX6_seed_5 rfl (lv_at hl1 1 rfl) ?_
  refine lv_lload_n hx hb dX6_seed_6 rfl (lv_at hl1 2 rfl) ?_
  refine va_put (ci := 6) (v := .long p0) (ty := .long) (C := RX6) (T := TX6) (N := 9) hx hb ht inX6 tyX6 tyX6_ok nmX6 hown hK.1 hP hD hS 0 rfl rfl 8 (by decide) (ht _ q_271) (fun _ h9 => h9) rfl (by decide +kernel) rfl rfl (Nat.le_of_ble_eq_true rfl) dX6_seed_7 (fun H2 locs2 hP2 hD2 hS2 => ?_)
  have hP3 : va_P G.1 vwCl ([(h0, .inr (6, cQ (kc cA) t0 (aN 0) (aT 0) b0 s0 i0 e0 p0))]) H2 := hP2
  have hD4 : va_D A ([(h0, .inr (6, cQ (kc cA) t0 (aN 0) (aT 0) b0 s0 i0 e0 p0))]) := hD2
  refine lv_lload_n hx hb dX6_seed_10 rfl (lv_at hl1 0 rfl) ?_
  exact k_lret kx hK hP3 hD4 hS2 (u := ()) rfl rfl dX6_seed_11

def r_X6_count (cA : Int32) (L : Nat) (z0 : Nat) (gN : Nat → Nat → Int32) (p0 : Int32) : Int32 := if p0 = 0 then (nI L) else if p0 = 1 then (gN 4 0) else if p0 = 2 then (gN 4 1) else if p0 = 3 then (gN 4 2) else if p0 = 4 then cA else if p0 = 5 then (nI z0) else (-2)
set_option maxHeartbeats 4000000 in
set_option maxRecDepth 100000 in
theorem c_X6_count (l : Launch) (G : kG) (cA : Int32) (sd : Int64) (h0 : Nat) (t0 : Nat) (aN : Nat → Nat) (aT : Nat → Nat) (b0 : Nat) (s0 : Nat) (i0 : Nat) (e0 : Nat) (L : Nat) (sg : Nat → Int32) (t1 : Nat) (z0 : Nat) (tk : Nat → Int32) (en : Nat → Int32) (mo : Nat → Int32) (e1 : Nat) (e2 : Nat) (e3 : Nat) (gN : Nat → Nat → Int32) (p0 : Int32) : cG l G yX6_count cX6_count 2 (some .int) 0 [.ref h0, .int p0] ([(h0, .inr (6, cQ (kc cA) t0 (aN 0) (aT 0) b0 s0 i0 e0 sd)), (t0, .inr (3, cX (kc (nI L)) t1)), (t1, .inl (G.2.1, 70, .inl sg)), (e0, .inr (1, cS (kc (nI z0)) e1 e2 e3)), (e1, .inl (G.2.1, 6, .inl tk)), (e2, .inl (G.2.1, 6, .inl en)), (e3, .inl (G.2.1, 6, .inl mo))] ++ (cW aN gN)) (qI G (fun (r : Int32) (_ : Unit) => r = r_X6_count cA L z0 gN p0) (fun _ => [(h0, .inr (6, cQ (kc cA) t0 (aN 0) (aT 0) b0 s0 i0 e0 sd)), (t0, .inr (3, cX (kc (nI L)) t1)), (t1, .inl (G.2.1, 70, .inl sg)), (e0, .inr (1, cS (kc (nI z0)) e1 e2 e3)), (e1, .inl (G.2.1, 6, .inl tk)), (e2, .inl (G.2.1, 6, .inl en)), (e3, .inl (G.2.1, 6, .inl mo))] ++ (cW aN gN))) := by
  refine kintro (by decide) (Nat.le_of_ble_eq_true rfl) ?_
  intro p e s m args below meth c A ls kx hK hP hD hS hA hl
  have kx : kX p s m args meth c cX6_count 2 (some .int) RX6 := kx
  have hx := kx.1
  have hb := kx.2.1
  have hown := kx.2.2.2.2.1
  have ht := kx.2.2.2.2.2.2
  have hl : lv_has ls 2 [(0, .ref h0), (1, .int p0)] := hl
  refine lv_iload_n hx hb dX6_count_0 rfl (lv_at hl 1 rfl) ?_
  by_cases c1 : p0 = 0
  · skip
    refine lv_tableIn (off := 39) (tgt := 40) hx hb dX6_count_1 (by rw [c1]; decide) (by rw [c1]; decide) (by rw [c1]; rfl) (by decide) ?_
    refine lv_aload_n hx hb dX6_count_40 rfl (lv_at hl 0 rfl) ?_
    refine va_get (ci := 6) (v := .ref t0) (C := RX6) (T := TX6) (N := 9) hx hb ht inX6 hown hK.1 hP 0 rfl rfl 0 (by decide) (ht _ q_263) (fun _ h9 => h9) rfl dX6_count_41 ?_
    refine va_get (ci := 3) (v := .int (nI L)) (C := RX3) (T := TX3) (N := 2) hx hb ht inX3 hown hK.1 hP 1 rfl rfl 1 (by decide) (ht _ q_55) (fun _ h9 => h9) rfl dX6_count_44 ?_
    have er : r_X6_count cA L z0 gN p0 = nI L := by rw [r_X6_count, if_pos c1]
    exact k_iret kx hK hP hD hS (u := ()) rfl er.symm dX6_count_47
  · skip
    by_cases c2 : p0 = 1
    · skip
      refine lv_tableIn (off := 47) (tgt := 48) hx hb dX6_count_1 (by rw [c2]; decide) (by rw [c2]; decide) (by rw [c2]; rfl) (by decide) ?_
      refine lv_aload_n hx hb dX6_count_48 rfl (lv_at hl 0 rfl) ?_
      refine va_get (ci := 6) (v := .ref (aN 0)) (C := RX6) (T := TX6) (N := 9) hx hb ht inX6 hown hK.1 hP 0 rfl rfl 1 (by decide) (ht _ q_264) (fun _ h9 => h9) rfl dX6_count_49 ?_
      refine va_get (ci := 5) (v := .int (gN 4 0)) (C := RX5) (T := TX5) (N := 8) hx hb ht inX5 hown hK.1 hP 7 rfl rfl 4 (by decide) (ht _ q_217) (fun _ h9 => h9) rfl dX6_count_52 ?_
      have er : r_X6_count cA L z0 gN p0 = gN 4 0 := by rw [r_X6_count, if_neg c1, if_pos c2]
      exact k_iret kx hK hP hD hS (u := ()) rfl er.symm dX6_count_55
    · skip
      by_cases c3 : p0 = 2
      · skip
        refine lv_tableIn (off := 55) (tgt := 56) hx hb dX6_count_1 (by rw [c3]; decide) (by rw [c3]; decide) (by rw [c3]; rfl) (by decide) ?_
        refine lv_aload_n hx hb dX6_count_56 rfl (lv_at hl 0 rfl) ?_
        refine va_get (ci := 6) (v := .ref (aN 0)) (C := RX6) (T := TX6) (N := 9) hx hb ht inX6 hown hK.1 hP 0 rfl rfl 1 (by decide) (ht _ q_264) (fun _ h9 => h9) rfl dX6_count_57 ?_
        refine va_get (ci := 5) (v := .int (gN 4 1)) (C := RX5) (T := TX5) (N := 8) hx hb ht inX5 hown hK.1 hP 7 rfl rfl 5 (by decide) (ht _ q_219) (fun _ h9 => h9) rfl dX6_count_60 ?_
        have er : r_X6_count cA L z0 gN p0 = gN 4 1 := by rw [r_X6_count, if_neg c1, if_neg c2, if_pos c3]
        exact k_iret kx hK hP hD hS (u := ()) rfl er.symm dX6_count_63
      · skip
        by_cases c4 : p0 = 3
        · skip
          refine lv_tableIn (off := 63) (tgt := 64) hx hb dX6_count_1 (by rw [c4]; decide) (by rw [c4]; decide) (by rw [c4]; rfl) (by decide) ?_
          refine lv_aload_n hx hb dX6_count_64 rfl (lv_at hl 0 rfl) ?_
          refine va_get (ci := 6) (v := .ref (aN 0)) (C := RX6) (T := TX6) (N := 9) hx hb ht inX6 hown hK.1 hP 0 rfl rfl 1 (by decide) (ht _ q_264) (fun _ h9 => h9) rfl dX6_count_65 ?_
          refine va_get (ci := 5) (v := .int (gN 4 2)) (C := RX5) (T := TX5) (N := 8) hx hb ht inX5 hown hK.1 hP 7 rfl rfl 6 (by decide) (ht _ q_221) (fun _ h9 => h9) rfl dX6_count_68 ?_
          have er : r_X6_count cA L z0 gN p0 = gN 4 2 := by rw [r_X6_count, if_neg c1, if_neg c2, if_neg c3, if_pos c4]
          exact k_iret kx hK hP hD hS (u := ()) rfl er.symm dX6_count_71
        · skip
          by_cases c5 : p0 = 4
          · skip
            refine lv_tableIn (off := 71) (tgt := 72) hx hb dX6_count_1 (by rw [c5]; decide) (by rw [c5]; decide) (by rw [c5]; rfl) (by decide) ?_
            refine lv_aload_n hx hb dX6_count_72 rfl (lv_at hl 0 rfl) ?_
            refine va_get (ci := 6) (v := .int cA) (C := RX6) (T := TX6) (N := 9) hx hb ht inX6 hown hK.1 hP 0 rfl rfl 4 (by decide) (ht _ q_267) (fun _ h9 => h9) rfl dX6_count_73 ?_
            have er : r_X6_count cA L z0 gN p0 = cA := by rw [r_X6_count, if_neg c1, if_neg c2, if_neg c3, if_neg c4, if_pos c5]
            exact k_iret kx hK hP hD hS (u := ()) rfl er.symm dX6_count_76
          · skip
            by_cases c6 : p0 = 5
            · skip
              refine lv_tableIn (off := 76) (tgt := 77) hx hb dX6_count_1 (by rw [c6]; decide) (by rw [c6]; decide) (by rw [c6]; rfl) (by decide) ?_
              refine lv_aload_n hx hb dX6_count_77 rfl (lv_at hl 0 rfl) ?_
              refine va_get (ci := 6) (v := .ref e0) (C := RX6) (T := TX6) (N := 9) hx hb ht inX6 hown hK.1 hP 0 rfl rfl 7 (by decide) (ht _ q_270) (fun _ h9 => h9) rfl dX6_count_78 ?_
              refine va_get (ci := 1) (v := .int (nI z0)) (C := RX1) (T := TX1) (N := 4) hx hb ht inX1 hown hK.1 hP 3 rfl rfl 3 (by decide) (ht _ q_252) (fun _ h9 => h9) rfl dX6_count_81 ?_
              have er : r_X6_count cA L z0 gN p0 = nI z0 := by rw [r_X6_count, if_neg c1, if_neg c2, if_neg c3, if_neg c4, if_neg c5, if_pos c6]
              exact k_iret kx hK hP hD hS (u := ()) rfl er.symm dX6_count_84
            · skip
              have nc1 := lv_neT (a := 0) c1 (by decide)
              have nc2 := lv_neT (a := 1) c2 (by decide)
              have nc3 := lv_neT (a := 2) c3 (by decide)
              have nc4 := lv_neT (a := 3) c4 (by decide)
              have nc5 := lv_neT (a := 4) c5 (by decide)
              have nc6 := lv_neT (a := 5) c6 (by decide)
              refine lv_tableOut (tgt := 85) hx hb dX6_count_1 (by omega) (by decide) ?_
              refine lv_bipush (v := (-2)) hx hb dX6_count_85 (by decide) ?_
              have er : r_X6_count cA L z0 gN p0 = (-2) := by rw [r_X6_count, if_neg c1, if_neg c2, if_neg c3, if_neg c4, if_neg c5, if_neg c6]
              exact k_iret kx hK hP hD hS (u := ()) rfl er.symm dX6_count_87

def l_X6_power_1_r (p0 : Int32) : Nat → Nat → Int32 → Int32
  | 0, j1, v_1 => v_1
  | n1 + 1, j1, v_1 => l_X6_power_1_r p0 n1 (j1 + 1) (v_1 * p0)
def r_X6_power (p0 : Int32) (p1 : Int32) : Int32 := l_X6_power_1_r p0 p1.toNatClampNeg 0 1
set_option maxHeartbeats 4000000 in
set_option maxRecDepth 100000 in
theorem c_X6_power (l : Launch) (G : kG) (p0 : Int32) (p1 : Int32) : cG l G yX6_power cX6_power 4 (some .int) 0 [.int p0, .int p1] ([]) (qI G (fun (r : Int32) (_ : Unit) => r = r_X6_power p0 p1) (fun _ => [])) := by
  refine kintro (by decide) (Nat.le_of_ble_eq_true rfl) ?_
  intro p e s m args below meth c A ls kx hK hP hD hS hA hl
  have kx : kX p s m args meth c cX6_power 4 (some .int) RX6 := kx
  have hx := kx.1
  have hb := kx.2.1
  have hown := kx.2.2.2.2.1
  have ht := kx.2.2.2.2.2.2
  have hl : lv_has ls 4 [(0, .int p0), (1, .int p1)] := hl
  refine lv_iconst (v := 1) hx hb dX6_power_0 (by decide) ?_
  refine lv_istore_n (lv' := [(2, .int 1), (0, .int p0), (1, .int p1)]) hx hb dX6_power_1 rfl hl (by decide) rfl (fun ls1 hl1 => ?_)
  refine lv_iconst (v := 0) hx hb dX6_power_2 (by decide) ?_
  refine lv_istore_n (lv' := [(3, .int 0), (2, .int 1), (0, .int p0), (1, .int p1)]) hx hb dX6_power_3 rfl hl1 (by decide) rfl (fun ls2 hl2 => ?_)
  have lp1 : ∀ (n1 j1 : Nat) (v_1 : Int32), j1 + n1 = p1.toNatClampNeg → (hr_1 : r_X6_power p0 p1 = l_X6_power_1_r p0 n1 j1 v_1) → ∀ (H : Heap) (locs : List Loc) (ls : Array Slot), va_P G.1 vwCl ([]) H → va_D A ([]) → va_S A s.heap H locs → lv_has ls 4 [(0, .int p0), (1, .int p1), (2, .int v_1), (3, .int (nI j1))] → W p l e (kr 0) s m args below meth c H locs 0 0 (MQ below (qI G (fun (r : Int32) (_ : Unit) => r = r_X6_power p0 p1) (fun _ => []) A) args s 0 0 A) (F0 m 4 ls []) := by
    intro n1
    induction n1 with
    | zero =>
      intro j1 v_1 hj1 hr_1 H3 locs3 ls3 hP3 hD3 hS3 hl3
      refine lv_iload_n hx hb dX6_power_4 rfl (lv_at hl3 3 rfl) ?_
      refine lv_iload_n hx hb dX6_power_5 rfl (lv_at hl3 1 rfl) ?_
      refine lv_icmp_ge (x := nI j1) (y := p1) (tgt := 19) hx hb dX6_power_6 (by decide) (fun (c1 : p1 ≤ nI j1) => ?_) (fun (c1 : ¬ (p1 ≤ nI j1)) => absurd (krun_z hj1) c1)
      refine lv_iload_n hx hb dX6_power_19 rfl (lv_at hl3 2 rfl) ?_
      have er : r_X6_power p0 p1 = v_1 := by rw [hr_1, l_X6_power_1_r]
      exact k_iret kx hK hP3 hD3 hS3 (u := ()) rfl er.symm dX6_power_20
    | succ n1 ih1 =>
      intro j1 v_1 hj1 hr_1 H3 locs3 ls3 hP3 hD3 hS3 hl3
      refine lv_iload_n hx hb dX6_power_4 rfl (lv_at hl3 3 rfl) ?_
      refine lv_iload_n hx hb dX6_power_5 rfl (lv_at hl3 1 rfl) ?_
      refine lv_icmp_ge (x := nI j1) (y := p1) (tgt := 19) hx hb dX6_power_6 (by decide) (fun (c2 : p1 ≤ nI j1) => absurd c2 (krun_s hj1)) (fun (c2 : ¬ (p1 ≤ nI j1)) => ?_)
      refine lv_iload_n hx hb dX6_power_9 rfl (lv_at hl3 2 rfl) ?_
      refine lv_iload_n hx hb dX6_power_10 rfl (lv_at hl3 0 rfl) ?_
      refine lv_imul hx hb dX6_power_11 ?_
      refine lv_istore_n (lv' := [(2, .int (v_1 * p0)), (0, .int p0), (1, .int p1), (3, .int (nI j1))]) hx hb dX6_power_12 rfl hl3 (by decide) rfl (fun ls4 hl4 => ?_)
      refine lv_iinc (v := nI (j1 + 1)) (lv' := [(3, .int (nI (j1 + 1))), (2, .int (v_1 * p0)), (0, .int p0), (1, .int p1)]) hx hb dX6_power_13 hl4 (k := 3) rfl (nI_1 j1) (by decide) rfl (fun ls5 hl5 => ?_)
      refine lv_goto (tgt := 4) hx hb dX6_power_16 (by decide) ?_
      have gr : r_X6_power p0 p1 = l_X6_power_1_r p0 n1 (j1 + 1) (v_1 * p0) := by rw [hr_1, l_X6_power_1_r]
      exact ih1 (j1 + 1) (v_1 * p0) (by omega) gr _ _ _ hP3 hD3 hS3 (lv_sub hl5 [2, 3, 1, 0] rfl)
  have gr : r_X6_power p0 p1 = l_X6_power_1_r p0 p1.toNatClampNeg 0 1 := by rw [r_X6_power]
  exact lp1 p1.toNatClampNeg 0 1 (by omega) gr _ _ _ hP hD hS (lv_sub hl2 [2, 3, 1, 0] rfl)
