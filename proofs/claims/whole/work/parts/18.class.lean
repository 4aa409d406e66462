theorem knle_of {L : Nat} (hL : L ≤ 70) (h : ¬ (70 : Int32) ≤ nI L) : L < 70 := by
  rcases Nat.lt_or_ge L 70 with q | q
  · exact q
  · by_cases hb : L < 2 ^ 31
    · exact absurd (nI_le q hb) h
    · omega
def r_X6_write (L : Nat) (p0 : Int32) : Int32 := if p0 < 0 then (-2) else if p0 ≤ 255 then (if nI L < 70 then ((nI L) + 1) else (-4)) else (-2)
def s_X6_write_tx (L : Nat) (p0 : Int32) : Nat → Int32 := if p0 < 0 then (kc (nI L)) else if p0 ≤ 255 then (if nI L < 70 then (kc ((nI L) + 1)) else kc (nI L)) else kc (nI L)
def s_X6_write_sg (L : Nat) (sg : Nat → Int32) (p0 : Int32) : Nat → Int32 := if p0 < 0 then sg else if p0 ≤ 255 then (if nI L < 70 then (upd sg L p0) else sg) else sg
set_option maxHeartbeats 4000000 in
set_option maxRecDepth 100000 in
theorem c_X6_write (l : Launch) (G : kG) (cA : Int32) (sd : Int64) (h0 : Nat) (t0 : Nat) (aN : Nat → Nat) (aT : Nat → Nat) (b0 : Nat) (s0 : Nat) (i0 : Nat) (e0 : Nat) (L : Nat) (sg : Nat → Int32) (t1 : Nat) (p0 : Int32) (hL : L ≤ 70) : cG l G yX6_write cX6_write 2 (some .int) 1 [.ref h0, .int p0] ([(h0, .inr (6, cQ (kc cA) t0 (aN 0) (aT 0) b0 s0 i0 e0 sd)), (t0, .inr (3, cX (kc (nI L)) t1)), (t1, .inl (G.2.1, 70, .inl sg))]) (qI G (fun (r : Int32) (u : ((Nat → Int32) × (Nat → Int32))) => r = r_X6_write L p0 ∧ u.1 = s_X6_write_tx L p0 ∧ u.2 = s_X6_write_sg L sg p0) (fun u => [(h0, .inr (6, cQ (kc cA) t0 (aN 0) (aT 0) b0 s0 i0 e0 sd)), (t0, .inr (3, cX u.1 t1)), (t1, .inl (G.2.1, 70, .inl u.2))])) := by
  refine kintro (by decide) (Nat.le_of_ble_eq_true rfl) ?_
  intro p e s m args below meth c A ls kx hK hP hD hS hA hl
  have kx : kX p s m args meth c cX6_write 2 (some .int) RX6 := kx
  have hx := kx.1
  have hb := kx.2.1
  have hown := kx.2.2.2.2.1
  have ht := kx.2.2.2.2.2.2
  have hl : lv_has ls 2 [(0, .ref h0), (1, .int p0)] := hl
  refine lv_iload_n hx hb dX6_write_0 rfl (lv_at hl 1 rfl) ?_
  refine lv_if_lt (x := p0) (tgt := 11) hx hb dX6_write_1 (by decide) (fun (c1 : p0 < 0) => ?_) (fun (c1 : ¬ (p0 < 0)) => ?_)
  · skip
    refine lv_bipush (v := (-2)) hx hb dX6_write_11 (by decide) ?_
    have er : r_X6_write L p0 = (-2) := by rw [r_X6_write, if_pos c1]
    have e0 : s_X6_write_tx L p0 = kc (nI L) := by rw [s_X6_write_tx, if_pos c1]
    have e1 : s_X6_write_sg L sg p0 = sg := by rw [s_X6_write_sg, if_pos c1]
    exact k_iret kx hK hP hD hS (u := (kc (nI L), sg)) rfl ⟨er.symm, e0.symm, e1.symm⟩ dX6_write_13
  · skip
    refine lv_iload_n hx hb dX6_write_4 rfl (lv_at hl 1 rfl) ?_
    refine lv_sipush (v := 255) hx hb dX6_write_5 (by decide) ?_
    refine lv_icmp_le (x := p0) (y := 255) (tgt := 14) hx hb dX6_write_8 (by decide) (fun (c2 : p0 ≤ 255) => ?_) (fun (c2 : ¬ (p0 ≤ 255)) => ?_)
    · skip
      refine lv_aload_n hx hb dX6_write_14 rfl (lv_at hl 0 rfl) ?_
      refine va_get (ci := 6) (v := .ref t0) (C := RX6) (T := TX6) (N := 9) hx hb ht inX6 hown hK.1 hP 0 rfl rfl 0 (by decide) (ht _ q_263) (fun _ h9 => h9) rfl dX6_write_15 ?_
      refine va_get (ci := 3) (v := .int (nI L)) (C := RX3) (T := TX3) (N := 2) hx hb ht inX3 hown hK.1 hP 1 rfl rfl 1 (by decide) (ht _ q_55) (fun _ h9 => h9) rfl dX6_write_18 ?_
      refine lv_bipush (v := 70) hx hb dX6_write_21 (by decide) ?_
      refine lv_icmp_lt (x := nI L) (y := 70) (tgt := 29) hx hb dX6_write_23 (by decide) (fun (c3 : nI L < 70) => ?_) (fun (c3 : ¬ (nI L < 70)) => ?_)
      · skip
        refine lv_aload_n hx hb dX6_write_29 rfl (lv_at hl 0 rfl) ?_
        refine va_get (ci := 6) (v := .ref t0) (C := RX6) (T := TX6) (N := 9) hx hb ht inX6 hown hK.1 hP 0 rfl rfl 0 (by decide) (ht _ q_263) (fun _ h9 => h9) rfl dX6_write_30 ?_
        refine lv_iload_n hx hb dX6_write_33 rfl (lv_at hl 1 rfl) ?_
        refine k_callv (kRunV (As := [.int p0]) (rest := []) kx (c_X3_add l G L sg t0 t1 p0 ((nI_ltI (a := L) (b := 70) (by omega) (by decide)).mp (show nI L < nI 70 from c3))) q_298 q_295 q_30 q_296 q_297 nX3_add ⟨Nat.le_of_ble_eq_true rfl, Nat.le_of_ble_eq_true rfl⟩ hK hP hD (kCtx_places _ _ [1, 2] rfl rfl) 0 3 rfl rfl rfl rfl hl.1 (Nat.le_of_ble_eq_true rfl) dX6_write_34 ⟨Nat.zero_le _, Nat.zero_le _⟩) hP hD hS hA (kCtx_places _ _ [1, 2] rfl rfl) (fun _ => rfl) (fun _ H1 locs1 hw hP1 hD1 hS1 => ?_)
        have hP2 : va_P G.1 vwCl ([(h0, .inr (6, cQ (kc cA) t0 (aN 0) (aT 0) b0 s0 i0 e0 sd)), (t0, .inr (3, cX (kc ((nI L) + 1)) t1)), (t1, .inl (G.2.1, 70, .inl (upd sg L p0)))]) H1 := hP1
        have hD3 : va_D A ([(h0, .inr (6, cQ (kc cA) t0 (aN 0) (aT 0) b0 s0 i0 e0 sd)), (t0, .inr (3, cX (kc ((nI L) + 1)) t1)), (t1, .inl (G.2.1, 70, .inl (upd sg L p0)))]) := hD1
        refine lv_aload_n hx hb dX6_write_37 rfl (lv_at hl 0 rfl) ?_
        refine va_get (ci := 6) (v := .ref t0) (C := RX6) (T := TX6) (N := 9) hx hb ht inX6 hown hK.1 hP2 0 rfl rfl 0 (by decide) (ht _ q_263) (fun _ h9 => h9) rfl dX6_write_38 ?_
        refine va_get (ci := 3) (v := .int ((nI L) + 1)) (C := RX3) (T := TX3) (N := 2) hx hb ht inX3 hown hK.1 hP2 1 rfl rfl 1 (by decide) (ht _ q_55) (fun _ h9 => h9) rfl dX6_write_41 ?_
        have er : r_X6_write L p0 = (nI L) + 1 := by rw [r_X6_write, if_neg c1, if_pos c2, if_pos c3]
        have e0 : s_X6_write_tx L p0 = kc ((nI L) + 1) := by rw [s_X6_write_tx, if_neg c1, if_pos c2, if_pos c3]
        have e1 : s_X6_write_sg L sg p0 = upd sg L p0 := by rw [s_X6_write_sg, if_neg c1, if_pos c2, if_pos c3]
        exact k_iret kx hK hP2 hD3 hS1 (u := (kc ((nI L) + 1), upd sg L p0)) rfl ⟨er.symm, e0.symm, e1.symm⟩ dX6_write_44
      · skip
        refine lv_bipush (v := (-4)) hx hb dX6_write_26 (by decide) ?_
        have er : r_X6_write L p0 = (-4) := by rw [r_X6_write, if_neg c1, if_pos c2, if_neg c3]
        have e0 : s_X6_write_tx L p0 = kc (nI L) := by rw [s_X6_write_tx, if_neg c1, if_pos c2, if_neg c3]
        have e1 : s_X6_write_sg L sg p0 = sg := by rw [s_X6_write_sg, if_neg c1, if_pos c2, if_neg c3]
        exact k_iret kx hK hP hD hS (u := (kc (nI L), sg)) rfl ⟨er.symm, e0.symm, e1.symm⟩ dX6_write_28
    · skip
      refine lv_bipush (v := (-2)) hx hb dX6_write_11 (by decide) ?_
      have er : r_X6_write L p0 = (-2) := by rw [r_X6_write, if_neg c1, if_neg c2]
      have e0 : s_X6_write_tx L p0 = kc (nI L) := by rw [s_X6_write_tx, if_neg c1, if_neg c2]
      have e1 : s_X6_write_sg L sg p0 = sg := by rw [s_X6_write_sg, if_neg c1, if_neg c2]
      exact k_iret kx hK hP hD hS (u := (kc (nI L), sg)) rfl ⟨er.symm, e0.symm, e1.symm⟩ dX6_write_13

set_option maxHeartbeats 4000000 in
set_option maxRecDepth 100000 in
theorem c_X6_wipe (l : Launch) (G : kG) (cA : Int32) (sd : Int64) (h0 : Nat) (t0 : Nat) (aN : Nat → Nat) (aT : Nat → Nat) (b0 : Nat) (s0 : Nat) (i0 : Nat) (e0 : Nat) (L : Nat) (sg : Nat → Int32) (t1 : Nat) : cG l G yX6_wipe cX6_wipe 2 (some .int) 0 [.ref h0] ([(h0, .inr (6, cQ (kc cA) t0 (aN 0) (aT 0) b0 s0 i0 e0 sd)), (t0, .inr (3, cX (kc (nI L)) t1)), (t1, .inl (G.2.1, 70, .inl sg))]) (qI G (fun (r : Int32) (_ : Unit) => r = nI L) (fun _ => [(h0, .inr (6, cQ (kc cA) t0 (aN 0) (aT 0) b0 s0 i0 e0 sd)), (t0, .inr (3, cX (kc 0) t1)), (t1, .inl (G.2.1, 70, .inl sg))])) := by
  refine kintro (by decide) (Nat.le_of_ble_eq_true rfl) ?_
  intro p e s m args below meth c A ls kx hK hP hD hS hA hl
  have kx : kX p s m args meth c cX6_wipe 2 (some .int) RX6 := kx
  have hx := kx.1
  have hb := kx.2.1
  have hown := kx.2.2.2.2.1
  have ht := kx.2.2.2.2.2.2
  have hl : lv_has ls 2 [(0, .ref h0)] := hl
  refine lv_aload_n hx hb dX6_wipe_0 rfl (lv_at hl 0 rfl) ?_
  refine va_get (ci := 6) (v := .ref t0) (C := RX6) (T := TX6) (N := 9) hx hb ht inX6 hown hK.1 hP 0 rfl rfl 0 (by decide) (ht _ q_263) (fun _ h9 => h9) rfl dX6_wipe_1 ?_
  refine va_get (ci := 3) (v := .int (nI L)) (C := RX3) (T := TX3) (N := 2) hx hb ht inX3 hown hK.1 hP 1 rfl rfl 1 (by decide) (ht _ q_55) (fun _ h9 => h9) rfl dX6_wipe_4 ?_
  refine lv_istore_n (lv' := [(1, .int (nI L)), (0, .ref h0)]) hx hb dX6_wipe_7 rfl hl (by decide) rfl (fun ls1 hl1 => ?_)
  refine lv_aload_n hx hb dX6_wipe_8 rfl (lv_at hl1 1 rfl) ?_
  refine va_get (ci := 6) (v := .ref t0) (C := RX6) (T := TX6) (N := 9) hx hb ht inX6 hown hK.1 hP 0 rfl rfl 0 (by decide) (ht _ q_263) (fun _ h9 => h9) rfl dX6_wipe_9 ?_
  refine lv_iconst (v := 0) hx hb dX6_wipe_12 (by decide) ?_
  refine va_put (ci := 3) (v := .int 0) (ty := .int) (C := RX3) (T := TX3) (N := 2) hx hb ht inX3 tyX3 tyX3_ok nmX3 hown hK.1 hP hD hS 1 rfl rfl 1 (by decide) (ht _ q_55) (fun _ h9 => h9) rfl (by decide +kernel) rfl rfl (Nat.le_of_ble_eq_true rfl) dX6_wipe_13 (fun H2 locs2 hP2 hD2 hS2 => ?_)
  have hP3 : va_P G.1 vwCl ([(h0, .inr (6, cQ (kc cA) t0 (aN 0) (aT 0) b0 s0 i0 e0 sd)), (t0, .inr (3, cX (kc 0) t1)), (t1, .inl (G.2.1, 70, .inl sg))]) H2 := hP2
  have hD4 : va_D A ([(h0, .inr (6, cQ (kc cA) t0 (aN 0) (aT 0) b0 s0 i0 e0 sd)), (t0, .inr (3, cX (kc 0) t1)), (t1, .inl (G.2.1, 70, .inl sg))]) := hD2
  refine lv_iload_n hx hb dX6_wipe_16 rfl (lv_at hl1 0 rfl) ?_
  exact k_iret kx hK hP3 hD4 hS2 (u := ()) rfl rfl dX6_wipe_17

set_option maxHeartbeats 4000000 in
set_option maxRecDepth 100000 in
theorem c_X6_fault (l : Launch) (G : kG) (cA : Int32) (sd : Int64) (h0 : Nat) (t0 : Nat) (aN : Nat → Nat) (aT : Nat → Nat) (b0 : Nat) (s0 : Nat) (i0 : Nat) (e0 : Nat) (L : Nat) (sg : Nat → Int32) (t1 : Nat) (hL : L ≤ 70) : cG l G yX6_fault cX6_fault 1 (some .int) 2 [.ref h0] ([(h0, .inr (6, cQ (kc cA) t0 (aN 0) (aT 0) b0 s0 i0 e0 sd)), (t0, .inr (3, cX (kc (nI L)) t1)), (t1, .inl (G.2.1, 70, .inl sg))]) (qI G (fun (r : Int32) (_ : Unit) => r = r_X3_faultPlace L sg) (fun _ => [(h0, .inr (6, cQ (kc cA) t0 (aN 0) (aT 0) b0 s0 i0 e0 sd)), (t0, .inr (3, cX (kc (nI L)) t1)), (t1, .inl (G.2.1, 70, .inl sg))])) := by
  refine kintro (by decide) (Nat.le_of_ble_eq_true rfl) ?_
  intro p e s m args below meth c A ls kx hK hP hD hS hA hl
  have kx : kX p s m args meth c cX6_fault 1 (some .int) RX6 := kx
  have hx := kx.1
  have hb := kx.2.1
  have hown := kx.2.2.2.2.1
  have ht := kx.2.2.2.2.2.2
  have hl : lv_has ls 1 [(0, .ref h0)] := hl
  refine lv_aload_n hx hb dX6_fault_0 rfl (lv_at hl 0 rfl) ?_
  refine va_get (ci := 6) (v := .ref t0) (C := RX6) (T := TX6) (N := 9) hx hb ht inX6 hown hK.1 hP 0 rfl rfl 0 (by decide) (ht _ q_263) (fun _ h9 => h9) rfl dX6_fault_1 ?_
  refine k_calli (kRunV (As := []) (rest := []) kx (c_X3_faultPlace l G L sg t0 t1 hL) q_310 q_307 q_30 q_308 q_309 nX3_faultPlace ⟨Nat.le_of_ble_eq_true rfl, Nat.le_of_ble_eq_true rfl⟩ hK hP hD (kCtx_places _ _ [1, 2] rfl rfl) 0 3 rfl rfl rfl rfl hl.1 (Nat.le_of_ble_eq_true rfl) dX6_fault_4 ⟨Nat.zero_le _, Nat.zero_le _⟩) hP hD hS hA (kCtx_places _ _ [1, 2] rfl rfl) (fun _ => rfl) (fun r1 _ H1 locs1 hw hP1 hD1 hS1 => ?_)
  have hr1 : r_X3_faultPlace L sg = r1 := (show r1 = r_X3_faultPlace L sg from hw).symm
  have hP2 : va_P G.1 vwCl ([(h0, .inr (6, cQ (kc cA) t0 (aN 0) (aT 0) b0 s0 i0 e0 sd)), (t0, .inr (3, cX (kc (nI L)) t1)), (t1, .inl (G.2.1, 70, .inl sg))]) H1 := hP1
  have hD3 : va_D A ([(h0, .inr (6, cQ (kc cA) t0 (aN 0) (aT 0) b0 s0 i0 e0 sd)), (t0, .inr (3, cX (kc (nI L)) t1)), (t1, .inl (G.2.1, 70, .inl sg))]) := hD1
  have er : r_X3_faultPlace L sg = r1 := by (try rw [hr1]); first | done | rfl
  exact k_iret kx hK hP2 hD3 hS1 (u := ()) rfl er.symm dX6_fault_7

def r_X6_known (gN : Nat → Nat → Int32) (p0 : Int32) (p1 : Int32) : Int32 := if (r_X6_isZeroOrOne p0) = 0 then (-1) else if p1 < 0 then (-2) else if p1 ≤ 4 then (if p0 = 0 then (r_X2_numberOf (fun i => (gN 0) (11 + i)) p1) else r_X2_numberOf (fun i => (gN 1) (11 + i)) p1) else (-2)
set_option maxHeartbeats 4000000 in
set_option maxRecDepth 100000 in
theorem c_X6_known (l : Launch) (G : kG) (cA : Int32) (sd : Int64) (h0 : Nat) (t0 : Nat) (aN : Nat → Nat) (aT : Nat → Nat) (b0 : Nat) (s0 : Nat) (i0 : Nat) (e0 : Nat) (gN : Nat → Nat → Int32) (p0 : Int32) (p1 : Int32) : cG l G yX6_known cX6_known 3 (some .int) 2 [.ref h0, .int p0, .int p1] ([(h0, .inr (6, cQ (kc cA) t0 (aN 0) (aT 0) b0 s0 i0 e0 sd))] ++ (cW aN gN)) (qI G (fun (r : Int32) (_ : Unit) => r = r_X6_known gN p0 p1) (fun _ => [(h0, .inr (6, cQ (kc cA) t0 (aN 0) (aT 0) b0 s0 i0 e0 sd))] ++ (cW aN gN))) := by
  refine kintro (by decide) (Nat.le_of_ble_eq_true rfl) ?_
  intro p e s m args below meth c A ls kx hK hP hD hS hA hl
  have kx : kX p s m args meth c cX6_known 3 (some .int) RX6 := kx
  have hx := kx.1
  have hb := kx.2.1
  have hown := kx.2.2.2.2.1
  have ht := kx.2.2.2.2.2.2
  have hl : lv_has ls 3 [(0, .ref h0), (1, .int p0), (2, .int p1)] := hl
  refine lv_iload_n hx hb dX6_known_0 rfl (lv_at hl 1 rfl) ?_
  refine k_calli (kRunS (As := [.int p0]) (rest := []) kx (c_X6_isZeroOrOne l G p0) q_431 q_429 q_29 q_430 nX6_isZeroOrOne ⟨Nat.le_of_ble_eq_true rfl, Nat.le_of_ble_eq_true rfl⟩ hK hP hD (kCtx_nil _) rfl hl.1 (Nat.le_of_ble_eq_true rfl) dX6_known_1 ⟨Nat.zero_le _, Nat.zero_le _⟩) hP hD hS hA (kCtx_nil _) (fun _ => rfl) (fun r1 _ H1 locs1 hw hP1 hD1 hS1 => ?_)
  have hr1 : r_X6_isZeroOrOne p0 = r1 := (show r1 = r_X6_isZeroOrOne p0 from hw).symm
  have hP2 : va_P G.1 vwCl ([(h0, .inr (6, cQ (kc cA) t0 (aN 0) (aT 0) b0 s0 i0 e0 sd))] ++ (cW aN gN)) H1 := hP1
  have hD3 : va_D A ([(h0, .inr (6, cQ (kc cA) t0 (aN 0) (aT 0) b0 s0 i0 e0 sd))] ++ (cW aN gN)) := hD1
  refine lv_if_ne (x := r1) (tgt := 9) hx hb dX6_known_4 (by decide) (fun (c2 : ¬ (r1 = 0)) => ?_) (fun (c2 : r1 = 0) => ?_)
  · skip
    refine lv_iload_n hx hb dX6_known_9 rfl (lv_at hl 2 rfl) ?_
    refine lv_if_lt (x := p1) (tgt := 18) hx hb dX6_known_10 (by decide) (fun (c3 : p1 < 0) => ?_) (fun (c3 : ¬ (p1 < 0)) => ?_)
    · skip
      refine lv_bipush (v := (-2)) hx hb dX6_known_18 (by decide) ?_
      have er : r_X6_known gN p0 p1 = (-2) := by rw [r_X6_known]; (try rw [hr1]); rw [if_neg c2, if_pos c3]
      exact k_iret kx hK hP2 hD3 hS1 (u := ()) rfl er.symm dX6_known_20
    · skip
      refine lv_iload_n hx hb dX6_known_13 rfl (lv_at hl 2 rfl) ?_
      refine lv_iconst (v := 4) hx hb dX6_known_14 (by decide) ?_
      refine lv_icmp_le (x := p1) (y := 4) (tgt := 21) hx hb dX6_known_15 (by decide) (fun (c4 : p1 ≤ 4) => ?_) (fun (c4 : ¬ (p1 ≤ 4)) => ?_)
      · skip
        refine lv_aload_n hx hb dX6_known_21 rfl (lv_at hl 0 rfl) ?_
        refine va_get (ci := 6) (v := .ref (aN 0)) (C := RX6) (T := TX6) (N := 9) hx hb ht inX6 hown hK.1 hP2 0 rfl rfl 1 (by decide) (ht _ q_264) (fun _ h9 => h9) rfl dX6_known_22 ?_
        refine lv_iload_n hx hb dX6_known_25 rfl (lv_at hl 1 rfl) ?_
        by_cases c5 : p0 = 0
        · skip
          refine k_top (y := 0) c5 ?_
          refine k_callr (kRunV (As := [.int 0]) (rest := []) kx (c_X5_endOf_0 l G (gN 4) (aN 0) (aN 1) (aN 3) (aN 5) (aN 7)) q_329 q_449 q_31 q_327 q_328 nX5_endOf ⟨Nat.le_of_ble_eq_true rfl, Nat.le_of_ble_eq_true rfl⟩ hK hP2 hD3 (kCtx_places _ _ [1] rfl rfl) 0 5 rfl rfl rfl rfl hl.1 (Nat.le_of_ble_eq_true rfl) dX6_known_26 ⟨Nat.zero_le _, Nat.zero_le _⟩) hP2 hD3 hS1 hA (kCtx_places _ _ [1] rfl rfl) (fun _ => rfl) (fun r6 _ H4 locs4 hw hP4 hD4 hS4 => ?_)
          have hr6 : aN 1 = r6 := (show r6 = aN 1 from hw).symm
          subst hr6
          have hP5 : va_P G.1 vwCl ([(h0, .inr (6, cQ (kc cA) t0 (aN 0) (aT 0) b0 s0 i0 e0 sd))] ++ (cW aN gN)) H4 := hP4
          have hD6 : va_D A ([(h0, .inr (6, cQ (kc cA) t0 (aN 0) (aT 0) b0 s0 i0 e0 sd))] ++ (cW aN gN)) := hD4
          refine va_get (ci := 0) (v := .ref (aN 2)) (C := RX0) (T := TX0) (N := 12) hx hb ht inX0 hown hK.1 hP5 2 rfl rfl 11 (by decide) (ht _ q_129) (fun _ h9 => h9) rfl dX6_known_29 ?_
          refine lv_iload_n hx hb dX6_known_32 rfl (lv_at hl 2 rfl) ?_
          refine k_calli (kRunV (As := [.int p1]) (rest := []) kx (c_X2_numberOf l G (fun i => (gN 0) (11 + i)) (aN 2) p1) q_478 q_475 q_33 q_476 q_477 nX2_numberOf ⟨Nat.le_of_ble_eq_true rfl, Nat.le_of_ble_eq_true rfl⟩ hK hP5 hD6 (kCtx_places _ _ [3] rfl rfl) 0 2 rfl rfl rfl rfl hl.1 (Nat.le_of_ble_eq_true rfl) dX6_known_33 ⟨Nat.zero_le _, Nat.zero_le _⟩) hP5 hD6 hS4 hA (kCtx_places _ _ [3] rfl rfl) (fun _ => rfl) (fun r7 _ H7 locs7 hw hP7 hD7 hS7 => ?_)
          have hr7 : r_X2_numberOf (fun i => (gN 0) (11 + i)) p1 = r7 := (show r7 = r_X2_numberOf (fun i => (gN 0) (11 + i)) p1 from hw).symm
          have hP8 : va_P G.1 vwCl ([(h0, .inr (6, cQ (kc cA) t0 (aN 0) (aT 0) b0 s0 i0 e0 sd))] ++ (cW aN gN)) H7 := hP7
          have hD9 : va_D A ([(h0, .inr (6, cQ (kc cA) t0 (aN 0) (aT 0) b0 s0 i0 e0 sd))] ++ (cW aN gN)) := hD7
          have er : r_X6_known gN p0 p1 = r7 := by rw [r_X6_known]; (try rw [hr1]); (try rw [hr7]); rw [if_neg c2, if_neg c3, if_pos c4, if_pos c5]
          exact k_iret kx hK hP8 hD9 hS7 (u := ()) rfl er.symm dX6_known_36
        · skip
          refine k_callr (kRunV (As := [.int p0]) (rest := []) kx (c_X5_endOf_n l G (gN 4) (aN 0) (aN 1) (aN 3) (aN 5) (aN 7) p0 c5) q_329 q_449 q_31 q_327 q_328 nX5_endOf ⟨Nat.le_of_ble_eq_true rfl, Nat.le_of_ble_eq_true rfl⟩ hK hP2 hD3 (kCtx_places _ _ [1] rfl rfl) 0 5 rfl rfl rfl rfl hl.1 (Nat.le_of_ble_eq_true rfl) dX6_known_26 ⟨Nat.zero_le _, Nat.zero_le _⟩) hP2 hD3 hS1 hA (kCtx_places _ _ [1] rfl rfl) (fun _ => rfl) (fun r8 _ H10 locs10 hw hP10 hD10 hS10 => ?_)
          have hr8 : aN 3 = r8 := (show r8 = aN 3 from hw).symm
          subst hr8
          have hP11 : va_P G.1 vwCl ([(h0, .inr (6, cQ (kc cA) t0 (aN 0) (aT 0) b0 s0 i0 e0 sd))] ++ (cW aN gN)) H10 := hP10
          have hD12 : va_D A ([(h0, .inr (6, cQ (kc cA) t0 (aN 0) (aT 0) b0 s0 i0 e0 sd))] ++ (cW aN gN)) := hD10
          refine va_get (ci := 0) (v := .ref (aN 4)) (C := RX0) (T := TX0) (N := 12) hx hb ht inX0 hown hK.1 hP11 4 rfl rfl 11 (by decide) (ht _ q_129) (fun _ h9 => h9) rfl dX6_known_29 ?_
          refine lv_iload_n hx hb dX6_known_32 rfl (lv_at hl 2 rfl) ?_
          refine k_calli (kRunV (As := [.int p1]) (rest := []) kx (c_X2_numberOf l G (fun i => (gN 1) (11 + i)) (aN 4) p1) q_478 q_475 q_33 q_476 q_477 nX2_numberOf ⟨Nat.le_of_ble_eq_true rfl, Nat.le_of_ble_eq_true rfl⟩ hK hP11 hD12 (kCtx_places _ _ [5] rfl rfl) 0 2 rfl rfl rfl rfl hl.1 (Nat.le_of_ble_eq_true rfl) dX6_known_33 ⟨Nat.zero_le _, Nat.zero_le _⟩) hP11 hD12 hS10 hA (kCtx_places _ _ [5] rfl rfl) (fun _ => rfl) (fun r9 _ H13 locs13 hw hP13 hD13 hS13 => ?_)
          have hr9 : r_X2_numberOf (fun i => (gN 1) (11 + i)) p1 = r9 := (show r9 = r_X2_numberOf (fun i => (gN 1) (11 + i)) p1 from hw).symm
          have hP14 : va_P G.1 vwCl ([(h0, .inr (6, cQ (kc cA) t0 (aN 0) (aT 0) b0 s0 i0 e0 sd))] ++ (cW aN gN)) H13 := hP13
          have hD15 : va_D A ([(h0, .inr (6, cQ (kc cA) t0 (aN 0) (aT 0) b0 s0 i0 e0 sd))] ++ (cW aN gN)) := hD13
          have er : r_X6_known gN p0 p1 = r9 := by rw [r_X6_known]; (try rw [hr1]); (try rw [hr9]); rw [if_neg c2, if_neg c3, if_pos c4, if_neg c5]
          exact k_iret kx hK hP14 hD15 hS13 (u := ()) rfl er.symm dX6_known_36
      · skip
        refine lv_bipush (v := (-2)) hx hb dX6_known_18 (by decide) ?_
        have er : r_X6_known gN p0 p1 = (-2) := by rw [r_X6_known]; (try rw [hr1]); rw [if_neg c2, if_neg c3, if_neg c4]
        exact k_iret kx hK hP2 hD3 hS1 (u := ()) rfl er.symm dX6_known_20
  · skip
    refine lv_iconst (v := (-1)) hx hb dX6_known_7 (by decide) ?_
    have er : r_X6_known gN p0 p1 = (-1) := by rw [r_X6_known]; (try rw [hr1]); rw [if_pos c2]
    exact k_iret kx hK hP2 hD3 hS1 (u := ()) rfl er.symm dX6_known_8

def r_X6_way (gN : Nat → Nat → Int32) (p0 : Int32) (p1 : Int32) : Int32 := if (r_X6_isZeroOrOne p0) = 0 then (-1) else if p1 < 0 then (-2) else if p1 ≤ 1 then (if p0 = 0 then (if p1 = 0 then (r_X6_oneIf (gN 2 9)) else r_X6_oneIf (gN 2 0)) else if p1 = 0 then (r_X6_oneIf (gN 3 9)) else r_X6_oneIf (gN 3 0)) else (-2)
set_option maxHeartbeats 4000000 in
set_option maxRecDepth 100000 in
theorem c_X6_way (l : Launch) (G : kG) (cA : Int32) (sd : Int64) (h0 : Nat) (t0 : Nat) (aN : Nat → Nat) (aT : Nat → Nat) (b0 : Nat) (s0 : Nat) (i0 : Nat) (e0 : Nat) (gN : Nat → Nat → Int32) (p0 : Int32) (p1 : Int32) : cG l G yX6_way cX6_way 4 (some .int) 1 [.ref h0, .int p0, .int p1] ([(h0, .inr (6, cQ (kc cA) t0 (aN 0) (aT 0) b0 s0 i0 e0 sd))] ++ (cW aN gN)) (qI G (fun (r : Int32) (_ : Unit) => r = r_X6_way gN p0 p1) (fun _ => [(h0, .inr (6, cQ (kc cA) t0 (aN 0) (aT 0) b0 s0 i0 e0 sd))] ++ (cW aN gN))) := by
  refine kintro (by decide) (Nat.le_of_ble_eq_true rfl) ?_
  intro p e s m args below meth c A ls kx hK hP hD hS hA hl
  have kx : kX p s m args meth c cX6_way 4 (some .int) RX6 := kx
  have hx := kx.1
  have hb := kx.2.1
  have hown := kx.2.2.2.2.1
  have ht := kx.2.2.2.2.2.2
  have hl : lv_has ls 4 [(0, .ref h0), (1, .int p0), (2, .int p1)] := hl
  refine lv_iload_n hx hb dX6_way_0 rfl (lv_at hl 1 rfl) ?_
  refine k_calli (kRunS (As := [.int p0]) (rest := []) kx (c_X6_isZeroOrOne l G p0) q_431 q_429 q_29 q_430 nX6_isZeroOrOne ⟨Nat.le_of_ble_eq_true rfl, Nat.le_of_ble_eq_true rfl⟩ hK hP hD (kCtx_nil _) rfl hl.1 (Nat.le_of_ble_eq_true rfl) dX6_way_1 ⟨Nat.zero_le _, Nat.zero_le _⟩) hP hD hS hA (kCtx_nil _) (fun _ => rfl) (fun r1 _ H1 locs1 hw hP1 hD1 hS1 => ?_)
  have hr1 : r_X6_isZeroOrOne p0 = r1 := (show r1 = r_X6_isZeroOrOne p0 from hw).symm
  have hP2 : va_P G.1 vwCl ([(h0, .inr (6, cQ (kc cA) t0 (aN 0) (aT 0) b0 s0 i0 e0 sd))] ++ (cW aN gN)) H1 := hP1
  have hD3 : va_D A ([(h0, .inr (6, cQ (kc cA) t0 (aN 0) (aT 0) b0 s0 i0 e0 sd))] ++ (cW aN gN)) := hD1
  refine lv_if_ne (x := r1) (tgt := 9) hx hb dX6_way_4 (by decide) (fun (c2 : ¬ (r1 = 0)) => ?_) (fun (c2 : r1 = 0) => ?_)
  · skip
    refine lv_iload_n hx hb dX6_way_9 rfl (lv_at hl 2 rfl) ?_
    refine lv_if_lt (x := p1) (tgt := 18) hx hb dX6_way_10 (by decide) (fun (c3 : p1 < 0) => ?_) (fun (c3 : ¬ (p1 < 0)) => ?_)
    · skip
      refine lv_bipush (v := (-2)) hx hb dX6_way_18 (by decide) ?_
      have er : r_X6_way gN p0 p1 = (-2) := by rw [r_X6_way]; (try rw [hr1]); rw [if_neg c2, if_pos c3]
      exact k_iret kx hK hP2 hD3 hS1 (u := ()) rfl er.symm dX6_way_20
    · skip
      refine lv_iload_n hx hb dX6_way_13 rfl (lv_at hl 2 rfl) ?_
      refine lv_iconst (v := 1) hx hb dX6_way_14 (by decide) ?_
      refine lv_icmp_le (x := p1) (y := 1) (tgt := 21) hx hb dX6_way_15 (by decide) (fun (c4 : p1 ≤ 1) => ?_) (fun (c4 : ¬ (p1 ≤ 1)) => ?_)
      · skip
        refine lv_aload_n hx hb dX6_way_21 rfl (lv_at hl 0 rfl) ?_
        refine va_get (ci := 6) (v := .ref (aN 0)) (C := RX6) (T := TX6) (N := 9) hx hb ht inX6 hown hK.1 hP2 0 rfl rfl 1 (by decide) (ht _ q_264) (fun _ h9 => h9) rfl dX6_way_22 ?_
        refine lv_iload_n hx hb dX6_way_25 rfl (lv_at hl 1 rfl) ?_
        by_cases c5 : p0 = 0
        · skip
          refine k_top (y := 0) c5 ?_
          refine k_callr (kRunV (As := [.int 0]) (rest := []) kx (c_X5_wayOf_0 l G (gN 4) (aN 0) (aN 1) (aN 3) (aN 5) (aN 7)) q_347 q_484 q_31 q_345 q_346 nX5_wayOf ⟨Nat.le_of_ble_eq_true rfl, Nat.le_of_ble_eq_true rfl⟩ hK hP2 hD3 (kCtx_places _ _ [1] rfl rfl) 0 5 rfl rfl rfl rfl hl.1 (Nat.le_of_ble_eq_true rfl) dX6_way_26 ⟨Nat.zero_le _, Nat.zero_le _⟩) hP2 hD3 hS1 hA (kCtx_places _ _ [1] rfl rfl) (fun _ => rfl) (fun r6 _ H4 locs4 hw hP4 hD4 hS4 => ?_)
          have hr6 : aN 5 = r6 := (show r6 = aN 5 from hw).symm
          subst hr6
          have hP5 : va_P G.1 vwCl ([(h0, .inr (6, cQ (kc cA) t0 (aN 0) (aT 0) b0 s0 i0 e0 sd))] ++ (cW aN gN)) H4 := hP4
          have hD6 : va_D A ([(h0, .inr (6, cQ (kc cA) t0 (aN 0) (aT 0) b0 s0 i0 e0 sd))] ++ (cW aN gN)) := hD4
          refine lv_astore_n (lv' := [(3, .ref (aN 5)), (0, .ref h0), (1, .int p0), (2, .int p1)]) hx hb dX6_way_29 rfl hl (by decide) rfl (fun ls7 hl7 => ?_)
          refine lv_iload_n hx hb dX6_way_30 rfl (lv_at hl7 3 rfl) ?_
          refine lv_if_ne (x := p1) (tgt := 41) hx hb dX6_way_31 (by decide) (fun (c7 : ¬ (p1 = 0)) => ?_) (fun (c7 : p1 = 0) => ?_)
          · skip
            refine lv_aload_n hx hb dX6_way_41 rfl (lv_at hl7 0 rfl) ?_
            refine va_get (ci := 4) (v := .int (gN 2 0)) (C := RX4) (T := TX4) (N := 7) hx hb ht inX4 hown hK.1 hP5 6 rfl rfl 1 (by decide) (ht _ q_166) (fun _ h9 => h9) rfl dX6_way_42 ?_
            refine k_calli (kRunS (As := [.int (gN 2 0)]) (rest := []) kx (c_X6_oneIf l G (gN 2 0)) q_469 q_485 q_29 q_468 nX6_oneIf ⟨Nat.le_of_ble_eq_true rfl, Nat.le_of_ble_eq_true rfl⟩ hK hP5 hD6 (kCtx_nil _) rfl hl7.1 (Nat.le_of_ble_eq_true rfl) dX6_way_45 ⟨Nat.zero_le _, Nat.zero_le _⟩) hP5 hD6 hS4 hA (kCtx_nil _) (fun _ => rfl) (fun r8 _ H8 locs8 hw hP8 hD8 hS8 => ?_)
            have hr8 : r_X6_oneIf (gN 2 0) = r8 := (show r8 = r_X6_oneIf (gN 2 0) from hw).symm
            have hP9 : va_P G.1 vwCl ([(h0, .inr (6, cQ (kc cA) t0 (aN 0) (aT 0) b0 s0 i0 e0 sd))] ++ (cW aN gN)) H8 := hP8
            have hD10 : va_D A ([(h0, .inr (6, cQ (kc cA) t0 (aN 0) (aT 0) b0 s0 i0 e0 sd))] ++ (cW aN gN)) := hD8
            have er : r_X6_way gN p0 p1 = r8 := by rw [r_X6_way]; (try rw [hr1]); (try rw [hr8]); rw [if_neg c2, if_neg c3, if_pos c4, if_pos c5, if_neg c7]
            exact k_iret kx hK hP9 hD10 hS8 (u := ()) rfl er.symm dX6_way_48
          · skip
            refine lv_aload_n hx hb dX6_way_34 rfl (lv_at hl7 0 rfl) ?_
            refine va_get (ci := 4) (v := .int (gN 2 9)) (C := RX4) (T := TX4) (N := 7) hx hb ht inX4 hown hK.1 hP5 6 rfl rfl 0 (by decide) (ht _ q_164) (fun _ h9 => h9) rfl dX6_way_35 ?_
            refine lv_goto (tgt := 45) hx hb dX6_way_38 (by decide) ?_
            refine k_calli (kRunS (As := [.int (gN 2 9)]) (rest := []) kx (c_X6_oneIf l G (gN 2 9)) q_469 q_485 q_29 q_468 nX6_oneIf ⟨Nat.le_of_ble_eq_true rfl, Nat.le_of_ble_eq_true rfl⟩ hK hP5 hD6 (kCtx_nil _) rfl hl7.1 (Nat.le_of_ble_eq_true rfl) dX6_way_45 ⟨Nat.zero_le _, Nat.zero_le _⟩) hP5 hD6 hS4 hA (kCtx_nil _) (fun _ => rfl) (fun r9 _ H11 locs11 hw hP11 hD11 hS11 => ?_)
            have hr9 : r_X6_oneIf (gN 2 9) = r9 := (show r9 = r_X6_oneIf (gN 2 9) from hw).symm
            have hP12 : va_P G.1 vwCl ([(h0, .inr (6, cQ (kc cA) t0 (aN 0) (aT 0) b0 s0 i0 e0 sd))] ++ (cW aN gN)) H11 := hP11
            have hD13 : va_D A ([(h0, .inr (6, cQ (kc cA) t0 (aN 0) (aT 0) b0 s0 i0 e0 sd))] ++ (cW aN gN)) := hD11
            have er : r_X6_way gN p0 p1 = r9 := by rw [r_X6_way]; (try rw [hr1]); (try rw [hr9]); rw [if_neg c2, if_neg c3, if_pos c4, if_pos c5, if_pos c7]
            exact k_iret kx hK hP12 hD13 hS11 (u := ()) rfl er.symm dX6_way_48
        · skip
          refine k_callr (kRunV (As := [.int p0]) (rest := []) kx (c_X5_wayOf_n l G (gN 4) (aN 0) (aN 1) (aN 3) (aN 5) (aN 7) p0 c5) q_347 q_484 q_31 q_345 q_346 nX5_wayOf ⟨Nat.le_of_ble_eq_true rfl, Nat.le_of_ble_eq_true rfl⟩ hK hP2 hD3 (kCtx_places _ _ [1] rfl rfl) 0 5 rfl rfl rfl rfl hl.1 (Nat.le_of_ble_eq_true rfl) dX6_way_26 ⟨Nat.zero_le _, Nat.zero_le _⟩) hP2 hD3 hS1 hA (kCtx_places _ _ [1] rfl rfl) (fun _ => rfl) (fun r10 _ H14 locs14 hw hP14 hD14 hS14 => ?_)
          have hr10 : aN 7 = r10 := (show r10 = aN 7 from hw).symm
          subst hr10
          have hP15 : va_P G.1 vwCl ([(h0, .inr (6, cQ (kc cA) t0 (aN 0) (aT 0) b0 s0 i0 e0 sd))] ++ (cW aN gN)) H14 := hP14
          have hD16 : va_D A ([(h0, .inr (6, cQ (kc cA) t0 (aN 0) (aT 0) b0 s0 i0 e0 sd))] ++ (cW aN gN)) := hD14
          refine lv_astore_n (lv' := [(3, .ref (aN 7)), (0, .ref h0), (1, .int p0), (2, .int p1)]) hx hb dX6_way_29 rfl hl (by decide) rfl (fun ls17 hl17 => ?_)
          refine lv_iload_n hx hb dX6_way_30 rfl (lv_at hl17 3 rfl) ?_
          refine lv_if_ne (x := p1) (tgt := 41) hx hb dX6_way_31 (by decide) (fun (c11 : ¬ (p1 = 0)) => ?_) (fun (c11 : p1 = 0) => ?_)
          · skip
            refine lv_aload_n hx hb dX6_way_41 rfl (lv_at hl17 0 rfl) ?_
            refine va_get (ci := 4) (v := .int (gN 3 0)) (C := RX4) (T := TX4) (N := 7) hx hb ht inX4 hown hK.1 hP15 8 rfl rfl 1 (by decide) (ht _ q_166) (fun _ h9 => h9) rfl dX6_way_42 ?_
            refine k_calli (kRunS (As := [.int (gN 3 0)]) (rest := []) kx (c_X6_oneIf l G (gN 3 0)) q_469 q_485 q_29 q_468 nX6_oneIf ⟨Nat.le_of_ble_eq_true rfl, Nat.le_of_ble_eq_true rfl⟩ hK hP15 hD16 (kCtx_nil _) rfl hl17.1 (Nat.le_of_ble_eq_true rfl) dX6_way_45 ⟨Nat.zero_le _, Nat.zero_le _⟩) hP15 hD16 hS14 hA (kCtx_nil _) (fun _ => rfl) (fun r12 _ H18 locs18 hw hP18 hD18 hS18 => ?_)
            have hr12 : r_X6_oneIf (gN 3 0) = r12 := (show r12 = r_X6_oneIf (gN 3 0) from hw).symm
            have hP19 : va_P G.1 vwCl ([(h0, .inr (6, cQ (kc cA) t0 (aN 0) (aT 0) b0 s0 i0 e0 sd))] ++ (cW aN gN)) H18 := hP18
            have hD20 : va_D A ([(h0, .inr (6, cQ (kc cA) t0 (aN 0) (aT 0) b0 s0 i0 e0 sd))] ++ (cW aN gN)) := hD18
            have er : r_X6_way gN p0 p1 = r12 := by rw [r_X6_way]; (try rw [hr1]); (try rw [hr12]); rw [if_neg c2, if_neg c3, if_pos c4, if_neg c5, if_neg c11]
            exact k_iret kx hK hP19 hD20 hS18 (u := ()) rfl er.symm dX6_way_48
          · skip
            refine lv_aload_n hx hb dX6_way_34 rfl (lv_at hl17 0 rfl) ?_
            refine va_get (ci := 4) (v := .int (gN 3 9)) (C := RX4) (T := TX4) (N := 7) hx hb ht inX4 hown hK.1 hP15 8 rfl rfl 0 (by decide) (ht _ q_164) (fun _ h9 => h9) rfl dX6_way_35 ?_
            refine lv_goto (tgt := 45) hx hb dX6_way_38 (by decide) ?_
            refine k_calli (kRunS (As := [.int (gN 3 9)]) (rest := []) kx (c_X6_oneIf l G (gN 3 9)) q_469 q_485 q_29 q_468 nX6_oneIf ⟨Nat.le_of_ble_eq_true rfl, Nat.le_of_ble_eq_true rfl⟩ hK hP15 hD16 (kCtx_nil _) rfl hl17.1 (Nat.le_of_ble_eq_true rfl) dX6_way_45 ⟨Nat.zero_le _, Nat.zero_le _⟩) hP15 hD16 hS14 hA (kCtx_nil _) (fun _ => rfl) (fun r13 _ H21 locs21 hw hP21 hD21 hS21 => ?_)
            have hr13 : r_X6_oneIf (gN 3 9) = r13 := (show r13 = r_X6_oneIf (gN 3 9) from hw).symm
            have hP22 : va_P G.1 vwCl ([(h0, .inr (6, cQ (kc cA) t0 (aN 0) (aT 0) b0 s0 i0 e0 sd))] ++ (cW aN gN)) H21 := hP21
            have hD23 : va_D A ([(h0, .inr (6, cQ (kc cA) t0 (aN 0) (aT 0) b0 s0 i0 e0 sd))] ++ (cW aN gN)) := hD21
            have er : r_X6_way gN p0 p1 = r13 := by rw [r_X6_way]; (try rw [hr1]); (try rw [hr13]); rw [if_neg c2, if_neg c3, if_pos c4, if_neg c5, if_pos c11]
            exact k_iret kx hK hP22 hD23 hS21 (u := ()) rfl er.symm dX6_way_48
      · skip
        refine lv_bipush (v := (-2)) hx hb dX6_way_18 (by decide) ?_
        have er : r_X6_way gN p0 p1 = (-2) := by rw [r_X6_way]; (try rw [hr1]); rw [if_neg c2, if_neg c3, if_neg c4]
        exact k_iret kx hK hP2 hD3 hS1 (u := ()) rfl er.symm dX6_way_20
  · skip
    refine lv_iconst (v := (-1)) hx hb dX6_way_7 (by decide) ?_
    have er : r_X6_way gN p0 p1 = (-1) := by rw [r_X6_way]; (try rw [hr1]); rw [if_pos c2]
    exact k_iret kx hK hP2 hD3 hS1 (u := ()) rfl er.symm dX6_way_8

def l_X6_noticedBy_1_r : Nat → Nat → (Nat → Nat → Int32) → Int32
  | 0, j1, gT_1 => (-9)
  | n1 + 1, j1, gT_1 => if gT_1 0 5 = 0 then (nI j1) else l_X6_noticedBy_1_r n1 (j1 + 1) (s_X5_tick_g gT_1)
def l_X6_noticedBy_2_r : Nat → Nat → (Nat → Nat → Int32) → Int32
  | 0, j2, gT_2 => (-9)
  | n2 + 1, j2, gT_2 => if gT_2 1 5 = 0 then (nI j2) else l_X6_noticedBy_2_r n2 (j2 + 1) (s_X5_tick_g gT_2)
def r_X6_noticedBy (gN : Nat → Nat → Int32) (p0 : Int32) : Int32 := if p0 = 0 then (l_X6_noticedBy_1_r 100 0 (kg (gN 0) (gN 1) (upd (gN 2) 9 0) (upd (gN 3) 9 0) (gN 4))) else l_X6_noticedBy_2_r 100 0 (kg (gN 0) (gN 1) (upd (gN 2) 9 0) (upd (gN 3) 9 0) (gN 4))
def l_X6_noticedBy_1_gT : Nat → Nat → (Nat → Nat → Int32) → Nat → Nat → Int32
  | 0, j1, gT_1 => gT_1
  | n1 + 1, j1, gT_1 => if gT_1 0 5 = 0 then gT_1 else l_X6_noticedBy_1_gT n1 (j1 + 1) (s_X5_tick_g gT_1)
def l_X6_noticedBy_2_gT : Nat → Nat → (Nat → Nat → Int32) → Nat → Nat → Int32
  | 0, j2, gT_2 => gT_2
  | n2 + 1, j2, gT_2 => if gT_2 1 5 = 0 then gT_2 else l_X6_noticedBy_2_gT n2 (j2 + 1) (s_X5_tick_g gT_2)
def s_X6_noticedBy_gT (gN : Nat → Nat → Int32) (p0 : Int32) : Nat → Nat → Int32 := if p0 = 0 then (l_X6_noticedBy_1_gT 100 0 (kg (gN 0) (gN 1) (upd (gN 2) 9 0) (upd (gN 3) 9 0) (gN 4))) else l_X6_noticedBy_2_gT 100 0 (kg (gN 0) (gN 1) (upd (gN 2) 9 0) (upd (gN 3) 9 0) (gN 4))
set_option maxHeartbeats 4000000 in
set_option maxRecDepth 100000 in
theorem c_X6_noticedBy (l : Launch) (G : kG) (cA : Int32) (sd : Int64) (h0 : Nat) (t0 : Nat) (aN : Nat → Nat) (aT : Nat → Nat) (b0 : Nat) (s0 : Nat) (i0 : Nat) (e0 : Nat) (gN : Nat → Nat → Int32) (gT : Nat → Nat → Int32) (p0 : Int32) (hN : bW gN) : cG l G yX6_noticedBy cX6_noticedBy 4 (some .int) 4 [.ref h0, .int p0] ([(h0, .inr (6, cQ (kc cA) t0 (aN 0) (aT 0) b0 s0 i0 e0 sd))] ++ (cW aN gN ++ (cW aT gT))) (qI G (fun (r : Int32) (u : (Nat → Nat → Int32)) => r = r_X6_noticedBy gN p0 ∧ u = s_X6_noticedBy_gT gN p0) (fun u => [(h0, .inr (6, cQ (kc cA) t0 (aN 0) (aT 0) b0 s0 i0 e0 sd))] ++ (cW aN gN ++ (cW aT u)))) := by
  refine kintro (by decide) (Nat.le_of_ble_eq_true rfl) ?_
  intro p e s m args below meth c A ls kx hK hP hD hS hA hl
  have kx : kX p s m args meth c cX6_noticedBy 4 (some .int) RX6 := kx
  have hx := kx.1
  have hb := kx.2.1
  have hown := kx.2.2.2.2.1
  have ht := kx.2.2.2.2.2.2
  have hl : lv_has ls 4 [(0, .ref h0), (1, .int p0)] := hl
  refine lv_aload_n hx hb dX6_noticedBy_0 rfl (lv_at hl 0 rfl) ?_
  refine va_get (ci := 6) (v := .ref (aT 0)) (C := RX6) (T := TX6) (N := 9) hx hb ht inX6 hown hK.1 hP 0 rfl rfl 2 (by decide) (ht _ q_265) (fun _ h9 => h9) rfl dX6_noticedBy_1 ?_
  refine lv_aload_n hx hb dX6_noticedBy_4 rfl (lv_at hl 0 rfl) ?_
  refine va_get (ci := 6) (v := .ref (aN 0)) (C := RX6) (T := TX6) (N := 9) hx hb ht inX6 hown hK.1 hP 0 rfl rfl 1 (by decide) (ht _ q_264) (fun _ h9 => h9) rfl dX6_noticedBy_5 ?_
  refine k_callv (kRunV (As := [.ref (aN 0)]) (rest := []) kx (c_X5_copyFrom l G gT gN aT aN hN) q_439 q_436 q_31 q_437 q_438 nX5_copyFrom ⟨Nat.le_of_ble_eq_true rfl, Nat.le_of_ble_eq_true rfl⟩ hK hP hD (kCtx_in (kCtx_swap0 _ _)) 0 5 rfl rfl rfl rfl hl.1 (Nat.le_of_ble_eq_true rfl) dX6_noticedBy_8 ⟨Nat.zero_le _, Nat.zero_le _⟩) hP hD hS hA (kCtx_in (kCtx_swap0 _ _)) (fun _ => rfl) (fun _ H1 locs1 hw hP1 hD1 hS1 => ?_)
  have hP2 : va_P G.1 vwCl ([(h0, .inr (6, cQ (kc cA) t0 (aN 0) (aT 0) b0 s0 i0 e0 sd))] ++ (cW aN gN ++ (cW aT gN))) H1 := hP1
  have hD3 : va_D A ([(h0, .inr (6, cQ (kc cA) t0 (aN 0) (aT 0) b0 s0 i0 e0 sd))] ++ (cW aN gN ++ (cW aT gN))) := hD1
  refine lv_aload_n hx hb dX6_noticedBy_11 rfl (lv_at hl 0 rfl) ?_
  refine va_get (ci := 6) (v := .ref (aT 0)) (C := RX6) (T := TX6) (N := 9) hx hb ht inX6 hown hK.1 hP2 0 rfl rfl 2 (by decide) (ht _ q_265) (fun _ h9 => h9) rfl dX6_noticedBy_12 ?_
  refine va_get (ci := 5) (v := .ref (aT 5)) (C := RX5) (T := TX5) (N := 8) hx hb ht inX5 hown hK.1 hP2 10 rfl rfl 2 (by decide) (ht _ q_213) (fun _ h9 => h9) rfl dX6_noticedBy_15 ?_
  refine lv_iconst (v := 0) hx hb dX6_noticedBy_18 (by decide) ?_
  refine va_put (ci := 4) (v := .int 0) (ty := .boolean) (C := RX4) (T := TX4) (N := 7) hx hb ht inX4 tyX4 tyX4_ok nmX4 hown hK.1 hP2 hD3 hS1 15 rfl rfl 0 (by decide) (ht _ q_164) (fun _ h9 => h9) rfl (by decide +kernel) (kb_n kb0) (kb_f kb0) (Nat.le_of_ble_eq_true rfl) dX6_noticedBy_19 (fun H4 locs4 hP4 hD4 hS4 => ?_)
  have hP5 : va_P G.1 vwCl ([(h0, .inr (6, cQ (kc cA) t0 (aN 0) (aT 0) b0 s0 i0 e0 sd))] ++ (cW aN gN ++ (cW aT (kg (gN 0) (gN 1) (upd (gN 2) 9 0) (gN 3) (gN 4))))) H4 := hP4
  have hD6 : va_D A ([(h0, .inr (6, cQ (kc cA) t0 (aN 0) (aT 0) b0 s0 i0 e0 sd))] ++ (cW aN gN ++ (cW aT (kg (gN 0) (gN 1) (upd (gN 2) 9 0) (gN 3) (gN 4))))) := hD4
  refine lv_aload_n hx hb dX6_noticedBy_22 rfl (lv_at hl 0 rfl) ?_
  refine va_get (ci := 6) (v := .ref (aT 0)) (C := RX6) (T := TX6) (N := 9) hx hb ht inX6 hown hK.1 hP5 0 rfl rfl 2 (by decide) (ht _ q_265) (fun _ h9 => h9) rfl dX6_noticedBy_23 ?_
  refine va_get (ci := 5) (v := .ref (aT 7)) (C := RX5) (T := TX5) (N := 8) hx hb ht inX5 hown hK.1 hP5 10 rfl rfl 3 (by decide) (ht _ q_215) (fun _ h9 => h9) rfl dX6_noticedBy_26 ?_
  refine lv_iconst (v := 0) hx hb dX6_noticedBy_29 (by decide) ?_
  refine va_put (ci := 4) (v := .int 0) (ty := .boolean) (C := RX4) (T := TX4) (N := 7) hx hb ht inX4 tyX4 tyX4_ok nmX4 hown hK.1 hP5 hD6 hS4 17 rfl rfl 0 (by decide) (ht _ q_164) (fun _ h9 => h9) rfl (by decide +kernel) (kb_n kb0) (kb_f kb0) (Nat.le_of_ble_eq_true rfl) dX6_noticedBy_30 (fun H7 locs7 hP7 hD7 hS7 => ?_)
  have hP8 : va_P G.1 vwCl ([(h0, .inr (6, cQ (kc cA) t0 (aN 0) (aT 0) b0 s0 i0 e0 sd))] ++ (cW aN gN ++ (cW aT (kg (gN 0) (gN 1) (upd (gN 2) 9 0) (upd (gN 3) 9 0) (gN 4))))) H7 := hP7
  have hD9 : va_D A ([(h0, .inr (6, cQ (kc cA) t0 (aN 0) (aT 0) b0 s0 i0 e0 sd))] ++ (cW aN gN ++ (cW aT (kg (gN 0) (gN 1) (upd (gN 2) 9 0) (upd (gN 3) 9 0) (gN 4))))) := hD7
  refine lv_aload_n hx hb dX6_noticedBy_33 rfl (lv_at hl 0 rfl) ?_
  refine va_get (ci := 6) (v := .ref (aT 0)) (C := RX6) (T := TX6) (N := 9) hx hb ht inX6 hown hK.1 hP8 0 rfl rfl 2 (by decide) (ht _ q_265) (fun _ h9 => h9) rfl dX6_noticedBy_34 ?_
  refine lv_iload_n hx hb dX6_noticedBy_37 rfl (lv_at hl 1 rfl) ?_
  by_cases c2 : p0 = 0
  · skip
    refine k_top (y := 0) c2 ?_
    refine k_callr (kRunV (As := [.int 0]) (rest := []) kx (c_X5_endOf_0 l G (gN 4) (aT 0) (aT 1) (aT 3) (aT 5) (aT 7)) q_329 q_449 q_31 q_327 q_328 nX5_endOf ⟨Nat.le_of_ble_eq_true rfl, Nat.le_of_ble_eq_true rfl⟩ hK hP8 hD9 (kCtx_places _ _ [10] rfl rfl) 0 5 rfl rfl rfl rfl hl.1 (Nat.le_of_ble_eq_true rfl) dX6_noticedBy_38 ⟨Nat.zero_le _, Nat.zero_le _⟩) hP8 hD9 hS7 hA (kCtx_places _ _ [10] rfl rfl) (fun _ => rfl) (fun r3 _ H10 locs10 hw hP10 hD10 hS10 => ?_)
    have hr3 : aT 1 = r3 := (show r3 = aT 1 from hw).symm
    subst hr3
    have hP11 : va_P G.1 vwCl ([(h0, .inr (6, cQ (kc cA) t0 (aN 0) (aT 0) b0 s0 i0 e0 sd))] ++ (cW aN gN ++ (cW aT (kg (gN 0) (gN 1) (upd (gN 2) 9 0) (upd (gN 3) 9 0) (gN 4))))) H10 := hP10
    have hD12 : va_D A ([(h0, .inr (6, cQ (kc cA) t0 (aN 0) (aT 0) b0 s0 i0 e0 sd))] ++ (cW aN gN ++ (cW aT (kg (gN 0) (gN 1) (upd (gN 2) 9 0) (upd (gN 3) 9 0) (gN 4))))) := hD10
    refine lv_astore_n (lv' := [(2, .ref (aT 1)), (0, .ref h0), (1, .int p0)]) hx hb dX6_noticedBy_41 rfl hl (by decide) rfl (fun ls13 hl13 => ?_)
    refine lv_iconst (v := 0) hx hb dX6_noticedBy_42 (by decide) ?_
    refine lv_istore_n (lv' := [(3, .int 0), (2, .ref (aT 1)), (0, .ref h0), (1, .int p0)]) hx hb dX6_noticedBy_43 rfl hl13 (by decide) rfl (fun ls14 hl14 => ?_)
    have lp1 : ∀ (n1 j1 : Nat) (gT_1 : Nat → Nat → Int32), j1 + n1 = 100 → (hr_1 : r_X6_noticedBy gN p0 = l_X6_noticedBy_1_r n1 j1 gT_1) → (hgT_1 : s_X6_noticedBy_gT gN p0 = l_X6_noticedBy_1_gT n1 j1 gT_1) → (hb1 : bW gT_1) → ∀ (H : Heap) (locs : List Loc) (ls : Array Slot), va_P G.1 vwCl ([(h0, .inr (6, cQ (kc cA) t0 (aN 0) (aT 0) b0 s0 i0 e0 sd))] ++ (cW aN gN ++ (cW aT gT_1))) H → va_D A ([(h0, .inr (6, cQ (kc cA) t0 (aN 0) (aT 0) b0 s0 i0 e0 sd))] ++ (cW aN gN ++ (cW aT gT_1))) → va_S A s.heap H locs → lv_has ls 4 [(0, .ref h0), (1, .int p0), (2, .ref (aT 1)), (3, .int (nI j1))] → W p l e (kr 4) s m args below meth c H locs 0 0 (MQ below (qI G (fun (r : Int32) (u : (Nat → Nat → Int32)) => r = r_X6_noticedBy gN p0 ∧ u = s_X6_noticedBy_gT gN p0) (fun u => [(h0, .inr (6, cQ (kc cA) t0 (aN 0) (aT 0) b0 s0 i0 e0 sd))] ++ (cW aN gN ++ (cW aT u))) A) args s 0 0 A) (F0 m 44 ls []) := by
      intro n1
      induction n1 with
      | zero =>
        intro j1 gT_1 hj1 hr_1 hgT_1 hb1 H15 locs15 ls15 hP15 hD15 hS15 hl15
        refine lv_iload_n hx hb dX6_noticedBy_44 rfl (lv_at hl15 3 rfl) ?_
        refine lv_bipush (v := 99) hx hb dX6_noticedBy_45 (by decide) ?_
        refine lv_icmp_gt (x := nI j1) (y := 99) (tgt := 72) hx hb dX6_noticedBy_47 (by decide) (fun (c4 : 99 < nI j1) => ?_) (fun (c4 : ¬ (99 < nI j1)) => absurd (klt_z rfl hj1 (by decide)) c4)
        refine lv_bipush (v := (-9)) hx hb dX6_noticedBy_72 (by decide) ?_
        have er : r_X6_noticedBy gN p0 = (-9) := by rw [hr_1, l_X6_noticedBy_1_r]
        have e0 : s_X6_noticedBy_gT gN p0 = gT_1 := by rw [hgT_1, l_X6_noticedBy_1_gT]
        exact k_iret kx hK hP15 hD15 hS15 (u := gT_1) rfl ⟨er.symm, e0.symm⟩ dX6_noticedBy_74
      | succ n1 ih1 =>
        intro j1 gT_1 hj1 hr_1 hgT_1 hb1 H15 locs15 ls15 hP15 hD15 hS15 hl15
        refine lv_iload_n hx hb dX6_noticedBy_44 rfl (lv_at hl15 3 rfl) ?_
        refine lv_bipush (v := 99) hx hb dX6_noticedBy_45 (by decide) ?_
        refine lv_icmp_gt (x := nI j1) (y := 99) (tgt := 72) hx hb dX6_noticedBy_47 (by decide) (fun (c5 : 99 < nI j1) => absurd c5 (klt_s rfl hj1 (by decide))) (fun (c5 : ¬ (99 < nI j1)) => ?_)
        refine lv_aload_n hx hb dX6_noticedBy_50 rfl (lv_at hl15 2 rfl) ?_
        refine va_get (ci := 0) (v := .int (gT_1 0 5)) (C := RX0) (T := TX0) (N := 12) hx hb ht inX0 hown hK.1 hP15 11 rfl rfl 5 (by decide) (ht _ q_115) (fun _ h9 => h9) rfl dX6_noticedBy_51 ?_
        refine lv_if_ne (x := gT_1 0 5) (tgt := 59) hx hb dX6_noticedBy_54 (by decide) (fun (c6 : ¬ (gT_1 0 5 = 0)) => ?_) (fun (c6 : gT_1 0 5 = 0) => ?_)
        · skip
          refine lv_aload_n hx hb dX6_noticedBy_59 rfl (lv_at hl15 0 rfl) ?_
          refine va_get (ci := 6) (v := .ref (aT 0)) (C := RX6) (T := TX6) (N := 9) hx hb ht inX6 hown hK.1 hP15 0 rfl rfl 2 (by decide) (ht _ q_265) (fun _ h9 => h9) rfl dX6_noticedBy_60 ?_
          refine k_callv (kRunV (As := []) (rest := []) kx (c_X5_tick l G gT_1 aT hb1) q_359 q_450 q_31 q_357 q_358 nX5_tick ⟨Nat.le_of_ble_eq_true rfl, Nat.le_of_ble_eq_true rfl⟩ hK hP15 hD15 (kCtx_in (kCtx_end _ _)) 0 5 rfl rfl rfl rfl hl15.1 (Nat.le_of_ble_eq_true rfl) dX6_noticedBy_63 ⟨Nat.zero_le _, Nat.zero_le _⟩) hP15 hD15 hS15 hA (kCtx_in (kCtx_end _ _)) (fun _ => rfl) (fun g8 H16 locs16 hw hP16 hD16 hS16 => ?_)
          have hg8 : s_X5_tick_g gT_1 = g8 := (show g8 = s_X5_tick_g gT_1 from hw).symm
          have hP17 : va_P G.1 vwCl ([(h0, .inr (6, cQ (kc cA) t0 (aN 0) (aT 0) b0 s0 i0 e0 sd))] ++ (cW aN gN ++ (cW aT g8))) H16 := hP16
          have hD18 : va_D A ([(h0, .inr (6, cQ (kc cA) t0 (aN 0) (aT 0) b0 s0 i0 e0 sd))] ++ (cW aN gN ++ (cW aT g8))) := hD16
          refine lv_iinc (v := nI (j1 + 1)) (lv' := [(3, .int (nI (j1 + 1))), (0, .ref h0), (1, .int p0), (2, .ref (aT 1))]) hx hb dX6_noticedBy_66 hl15 (k := 3) rfl (nI_1 j1) (by decide) rfl (fun ls19 hl19 => ?_)
          refine lv_goto (tgt := 44) hx hb dX6_noticedBy_69 (by decide) ?_
          subst hg8
          have gr : r_X6_noticedBy gN p0 = l_X6_noticedBy_1_r n1 (j1 + 1) (s_X5_tick_g gT_1) := by rw [hr_1, l_X6_noticedBy_1_r, if_neg c6]
          have ggT : s_X6_noticedBy_gT gN p0 = l_X6_noticedBy_1_gT n1 (j1 + 1) (s_X5_tick_g gT_1) := by rw [hgT_1, l_X6_noticedBy_1_gT, if_neg c6]
          exact ih1 (j1 + 1) (s_X5_tick_g gT_1) (by omega) gr ggT (b_s_X5_tick_g gT_1 hb1) _ _ _ hP17 hD18 hS16 (lv_sub hl19 [1, 2, 3, 0] rfl)
        · skip
          refine lv_iload_n hx hb dX6_noticedBy_57 rfl (lv_at hl15 3 rfl) ?_
          have er : r_X6_noticedBy gN p0 = nI j1 := by rw [hr_1, l_X6_noticedBy_1_r, if_pos c6]
          have e0 : s_X6_noticedBy_gT gN p0 = gT_1 := by rw [hgT_1, l_X6_noticedBy_1_gT, if_pos c6]
          exact k_iret kx hK hP15 hD15 hS15 (u := gT_1) rfl ⟨er.symm, e0.symm⟩ dX6_noticedBy_58
    have gr : r_X6_noticedBy gN p0 = l_X6_noticedBy_1_r 100 0 (kg (gN 0) (gN 1) (upd (gN 2) 9 0) (upd (gN 3) 9 0) (gN 4)) := by rw [r_X6_noticedBy, if_pos c2]
    have ggT : s_X6_noticedBy_gT gN p0 = l_X6_noticedBy_1_gT 100 0 (kg (gN 0) (gN 1) (upd (gN 2) 9 0) (upd (gN 3) 9 0) (gN 4)) := by rw [s_X6_noticedBy_gT, if_pos c2]
    exact lp1 100 0 (kg (gN 0) (gN 1) (upd (gN 2) 9 0) (upd (gN 3) 9 0) (gN 4)) (by omega) gr ggT (⟨hN.1, hN.2.1, ⟨hN.2.2.1.1, hN.2.2.1.2.1, hN.2.2.1.2.2.1, hN.2.2.1.2.2.2.1, hN.2.2.1.2.2.2.2.1, kb0⟩, ⟨hN.2.2.2.1, hN.2.2.2.2.1, hN.2.2.2.2.2.1, hN.2.2.2.2.2.2.1, hN.2.2.2.2.2.2.2.1, kb0⟩⟩) _ _ _ hP11 hD12 hS10 (lv_sub hl14 [2, 3, 1, 0] rfl)
  · skip
    refine k_callr (kRunV (As := [.int p0]) (rest := []) kx (c_X5_endOf_n l G (gN 4) (aT 0) (aT 1) (aT 3) (aT 5) (aT 7) p0 c2) q_329 q_449 q_31 q_327 q_328 nX5_endOf ⟨Nat.le_of_ble_eq_true rfl, Nat.le_of_ble_eq_true rfl⟩ hK hP8 hD9 (kCtx_places _ _ [10] rfl rfl) 0 5 rfl rfl rfl rfl hl.1 (Nat.le_of_ble_eq_true rfl) dX6_noticedBy_38 ⟨Nat.zero_le _, Nat.zero_le _⟩) hP8 hD9 hS7 hA (kCtx_places _ _ [10] rfl rfl) (fun _ => rfl) (fun r9 _ H20 locs20 hw hP20 hD20 hS20 => ?_)
    have hr9 : aT 3 = r9 := (show r9 = aT 3 from hw).symm
    subst hr9
    have hP21 : va_P G.1 vwCl ([(h0, .inr (6, cQ (kc cA) t0 (aN 0) (aT 0) b0 s0 i0 e0 sd))] ++ (cW aN gN ++ (cW aT (kg (gN 0) (gN 1) (upd (gN 2) 9 0) (upd (gN 3) 9 0) (gN 4))))) H20 := hP20
    have hD22 : va_D A ([(h0, .inr (6, cQ (kc cA) t0 (aN 0) (aT 0) b0 s0 i0 e0 sd))] ++ (cW aN gN ++ (cW aT (kg (gN 0) (gN 1) (upd (gN 2) 9 0) (upd (gN 3) 9 0) (gN 4))))) := hD20
    refine lv_astore_n (lv' := [(2, .ref (aT 3)), (0, .ref h0), (1, .int p0)]) hx hb dX6_noticedBy_41 rfl hl (by decide) rfl (fun ls23 hl23 => ?_)
    refine lv_iconst (v := 0) hx hb dX6_noticedBy_42 (by decide) ?_
    refine lv_istore_n (lv' := [(3, .int 0), (2, .ref (aT 3)), (0, .ref h0), (1, .int p0)]) hx hb dX6_noticedBy_43 rfl hl23 (by decide) rfl (fun ls24 hl24 => ?_)
    have lp2 : ∀ (n2 j2 : Nat) (gT_2 : Nat → Nat → Int32), j2 + n2 = 100 → (hr_2 : r_X6_noticedBy gN p0 = l_X6_noticedBy_2_r n2 j2 gT_2) → (hgT_2 : s_X6_noticedBy_gT gN p0 = l_X6_noticedBy_2_gT n2 j2 gT_2) → (hb2 : bW gT_2) → ∀ (H : Heap) (locs : List Loc) (ls : Array Slot), va_P G.1 vwCl ([(h0, .inr (6, cQ (kc cA) t0 (aN 0) (aT 0) b0 s0 i0 e0 sd))] ++ (cW aN gN ++ (cW aT gT_2))) H → va_D A ([(h0, .inr (6, cQ (kc cA) t0 (aN 0) (aT 0) b0 s0 i0 e0 sd))] ++ (cW aN gN ++ (cW aT gT_2))) → va_S A s.heap H locs → lv_has ls 4 [(0, .ref h0), (1, .int p0), (2, .ref (aT 3)), (3, .int (nI j2))] → W p l e (kr 4) s m args below meth c H locs 0 0 (MQ below (qI G (fun (r : Int32) (u : (Nat → Nat → Int32)) => r = r_X6_noticedBy gN p0 ∧ u = s_X6_noticedBy_gT gN p0) (fun u => [(h0, .inr (6, cQ (kc cA) t0 (aN 0) (aT 0) b0 s0 i0 e0 sd))] ++ (cW aN gN ++ (cW aT u))) A) args s 0 0 A) (F0 m 44 ls []) := by
      intro n2
      induction n2 with
      | zero =>
        intro j2 gT_2 hj2 hr_2 hgT_2 hb2 H25 locs25 ls25 hP25 hD25 hS25 hl25
        refine lv_iload_n hx hb dX6_noticedBy_44 rfl (lv_at hl25 3 rfl) ?_
        refine lv_bipush (v := 99) hx hb dX6_noticedBy_45 (by decide) ?_
        refine lv_icmp_gt (x := nI j2) (y := 99) (tgt := 72) hx hb dX6_noticedBy_47 (by decide) (fun (c10 : 99 < nI j2) => ?_) (fun (c10 : ¬ (99 < nI j2)) => absurd (klt_z rfl hj2 (by decide)) c10)
        refine lv_bipush (v := (-9)) hx hb dX6_noticedBy_72 (by decide) ?_
        have er : r_X6_noticedBy gN p0 = (-9) := by rw [hr_2, l_X6_noticedBy_2_r]
        have e0 : s_X6_noticedBy_gT gN p0 = gT_2 := by rw [hgT_2, l_X6_noticedBy_2_gT]
        exact k_iret kx hK hP25 hD25 hS25 (u := gT_2) rfl ⟨er.symm, e0.symm⟩ dX6_noticedBy_74
      | succ n2 ih2 =>
        intro j2 gT_2 hj2 hr_2 hgT_2 hb2 H25 locs25 ls25 hP25 hD25 hS25 hl25
        refine lv_iload_n hx hb dX6_noticedBy_44 rfl (lv_at hl25 3 rfl) ?_
        refine lv_bipush (v := 99) hx hb dX6_noticedBy_45 (by decide) ?_
        refine lv_icmp_gt (x := nI j2) (y := 99) (tgt := 72) hx hb dX6_noticedBy_47 (by decide) (fun (c11 : 99 < nI j2) => absurd c11 (klt_s rfl hj2 (by decide))) (fun (c11 : ¬ (99 < nI j2)) => ?_)
        refine lv_aload_n hx hb dX6_noticedBy_50 rfl (lv_at hl25 2 rfl) ?_
        refine va_get (ci := 0) (v := .int (gT_2 1 5)) (C := RX0) (T := TX0) (N := 12) hx hb ht inX0 hown hK.1 hP25 13 rfl rfl 5 (by decide) (ht _ q_115) (fun _ h9 => h9) rfl dX6_noticedBy_51 ?_
        refine lv_if_ne (x := gT_2 1 5) (tgt := 59) hx hb dX6_noticedBy_54 (by decide) (fun (c12 : ¬ (gT_2 1 5 = 0)) => ?_) (fun (c12 : gT_2 1 5 = 0) => ?_)
        · skip
          refine lv_aload_n hx hb dX6_noticedBy_59 rfl (lv_at hl25 0 rfl) ?_
          refine va_get (ci := 6) (v := .ref (aT 0)) (C := RX6) (T := TX6) (N := 9) hx hb ht inX6 hown hK.1 hP25 0 rfl rfl 2 (by decide) (ht _ q_265) (fun _ h9 => h9) rfl dX6_noticedBy_60 ?_
          refine k_callv (kRunV (As := []) (rest := []) kx (c_X5_tick l G gT_2 aT hb2) q_359 q_450 q_31 q_357 q_358 nX5_tick ⟨Nat.le_of_ble_eq_true rfl, Nat.le_of_ble_eq_true rfl⟩ hK hP25 hD25 (kCtx_in (kCtx_end _ _)) 0 5 rfl rfl rfl rfl hl25.1 (Nat.le_of_ble_eq_true rfl) dX6_noticedBy_63 ⟨Nat.zero_le _, Nat.zero_le _⟩) hP25 hD25 hS25 hA (kCtx_in (kCtx_end _ _)) (fun _ => rfl) (fun g14 H26 locs26 hw hP26 hD26 hS26 => ?_)
          have hg14 : s_X5_tick_g gT_2 = g14 := (show g14 = s_X5_tick_g gT_2 from hw).symm
          have hP27 : va_P G.1 vwCl ([(h0, .inr (6, cQ (kc cA) t0 (aN 0) (aT 0) b0 s0 i0 e0 sd))] ++ (cW aN gN ++ (cW aT g14))) H26 := hP26
          have hD28 : va_D A ([(h0, .inr (6, cQ (kc cA) t0 (aN 0) (aT 0) b0 s0 i0 e0 sd))] ++ (cW aN gN ++ (cW aT g14))) := hD26
          refine lv_iinc (v := nI (j2 + 1)) (lv' := [(3, .int (nI (j2 + 1))), (0, .ref h0), (1, .int p0), (2, .ref (aT 3))]) hx hb dX6_noticedBy_66 hl25 (k := 3) rfl (nI_1 j2) (by decide) rfl (fun ls29 hl29 => ?_)
          refine lv_goto (tgt := 44) hx hb dX6_noticedBy_69 (by decide) ?_
          subst hg14
          have gr : r_X6_noticedBy gN p0 = l_X6_noticedBy_2_r n2 (j2 + 1) (s_X5_tick_g gT_2) := by rw [hr_2, l_X6_noticedBy_2_r, if_neg c12]
          have ggT : s_X6_noticedBy_gT gN p0 = l_X6_noticedBy_2_gT n2 (j2 + 1) (s_X5_tick_g gT_2) := by rw [hgT_2, l_X6_noticedBy_2_gT, if_neg c12]
          exact ih2 (j2 + 1) (s_X5_tick_g gT_2) (by omega) gr ggT (b_s_X5_tick_g gT_2 hb2) _ _ _ hP27 hD28 hS26 (lv_sub hl29 [1, 2, 3, 0] rfl)
        · skip
          refine lv_iload_n hx hb dX6_noticedBy_57 rfl (lv_at hl25 3 rfl) ?_
          have er : r_X6_noticedBy gN p0 = nI j2 := by rw [hr_2, l_X6_noticedBy_2_r, if_pos c12]
          have e0 : s_X6_noticedBy_gT gN p0 = gT_2 := by rw [hgT_2, l_X6_noticedBy_2_gT, if_pos c12]
          exact k_iret kx hK hP25 hD25 hS25 (u := gT_2) rfl ⟨er.symm, e0.symm⟩ dX6_noticedBy_58
    have gr : r_X6_noticedBy gN p0 = l_X6_noticedBy_2_r 100 0 (kg (gN 0) (gN 1) (upd (gN 2) 9 0) (upd (gN 3) 9 0) (gN 4)) := by rw [r_X6_noticedBy, if_neg c2]
    have ggT : s_X6_noticedBy_gT gN p0 = l_X6_noticedBy_2_gT 100 0 (kg (gN 0) (gN 1) (upd (gN 2) 9 0) (upd (gN 3) 9 0) (gN 4)) := by rw [s_X6_noticedBy_gT, if_neg c2]
    exact lp2 100 0 (kg (gN 0) (gN 1) (upd (gN 2) 9 0) (upd (gN 3) 9 0) (gN 4)) (by omega) gr ggT (⟨hN.1, hN.2.1, ⟨hN.2.2.1.1, hN.2.2.1.2.1, hN.2.2.1.2.2.1, hN.2.2.1.2.2.2.1, hN.2.2.1.2.2.2.2.1, kb0⟩, ⟨hN.2.2.2.1, hN.2.2.2.2.1, hN.2.2.2.2.2.1, hN.2.2.2.2.2.2.1, hN.2.2.2.2.2.2.2.1, kb0⟩⟩) _ _ _ hP21 hD22 hS20 (lv_sub hl24 [2, 3, 1, 0] rfl)

def l_X6_endures_1_r : Nat → Nat → (Nat → Nat → Int32) → Int32
  | 0, j1, gT_1 => 1
  | n1 + 1, j1, gT_1 => if (s_X5_tick_g gT_1) 0 5 = 0 then 0 else l_X6_endures_1_r n1 (j1 + 1) (s_X5_tick_g gT_1)
def l_X6_endures_2_r : Nat → Nat → (Nat → Nat → Int32) → Int32
  | 0, j2, gT_2 => 1
  | n2 + 1, j2, gT_2 => if (s_X5_tick_g gT_2) 1 5 = 0 then 0 else l_X6_endures_2_r n2 (j2 + 1) (s_X5_tick_g gT_2)
def r_X6_endures (gN : Nat → Nat → Int32) (p0 : Int32) (p1 : Int32) : Int32 := if p0 = 0 then (l_X6_endures_1_r 60 1 (kg (gN 0) (gN 1) (gN 2) (upd (gN 3) 10 p1) (gN 4))) else l_X6_endures_2_r 60 1 (kg (gN 0) (gN 1) (upd (gN 2) 10 p1) (gN 3) (gN 4))
def l_X6_endures_1_gT : Nat → Nat → (Nat → Nat → Int32) → Nat → Nat → Int32
  | 0, j1, gT_1 => gT_1
  | n1 + 1, j1, gT_1 => if (s_X5_tick_g gT_1) 0 5 = 0 then (s_X5_tick_g gT_1) else l_X6_endures_1_gT n1 (j1 + 1) (s_X5_tick_g gT_1)
def l_X6_endures_2_gT : Nat → Nat → (Nat → Nat → Int32) → Nat → Nat → Int32
  | 0, j2, gT_2 => gT_2
  | n2 + 1, j2, gT_2 => if (s_X5_tick_g gT_2) 1 5 = 0 then (s_X5_tick_g gT_2) else l_X6_endures_2_gT n2 (j2 + 1) (s_X5_tick_g gT_2)
def s_X6_endures_gT (gN : Nat → Nat → Int32) (p0 : Int32) (p1 : Int32) : Nat → Nat → Int32 := if p0 = 0 then (l_X6_endures_1_gT 60 1 (kg (gN 0) (gN 1) (gN 2) (upd (gN 3) 10 p1) (gN 4))) else l_X6_endures_2_gT 60 1 (kg (gN 0) (gN 1) (upd (gN 2) 10 p1) (gN 3) (gN 4))
set_option maxHeartbeats 4000000 in
set_option maxRecDepth 100000 in
theorem c_X6_endures (l : Launch) (G : kG) (cA : Int32) (sd : Int64) (h0 : Nat) (t0 : Nat) (aN : Nat → Nat) (aT : Nat → Nat) (b0 : Nat) (s0 : Nat) (i0 : Nat) (e0 : Nat) (gN : Nat → Nat → Int32) (gT : Nat → Nat → Int32) (p0 : Int32) (p1 : Int32) (hN : bW gN) : cG l G yX6_endures cX6_endures 5 (some .boolean) 4 [.ref h0, .int p0, .int p1] ([(h0, .inr (6, cQ (kc cA) t0 (aN 0) (aT 0) b0 s0 i0 e0 sd))] ++ (cW aN gN ++ (cW aT gT))) (qI G (fun (r : Int32) (u : (Nat → Nat → Int32)) => r = r_X6_endures gN p0 p1 ∧ u = s_X6_endures_gT gN p0 p1) (fun u => [(h0, .inr (6, cQ (kc cA) t0 (aN 0) (aT 0) b0 s0 i0 e0 sd))] ++ (cW aN gN ++ (cW aT u)))) := by
  refine kintro (by decide) (Nat.le_of_ble_eq_true rfl) ?_
  intro p e s m args below meth c A ls kx hK hP hD hS hA hl
  have kx : kX p s m args meth c cX6_endures 5 (some .boolean) RX6 := kx
  have hx := kx.1
  have hb := kx.2.1
  have hown := kx.2.2.2.2.1
  have ht := kx.2.2.2.2.2.2
  have hl : lv_has ls 5 [(0, .ref h0), (1, .int p0), (2, .int p1)] := hl
  refine lv_aload_n hx hb dX6_endures_0 rfl (lv_at hl 0 rfl) ?_
  refine va_get (ci := 6) (v := .ref (aT 0)) (C := RX6) (T := TX6) (N := 9) hx hb ht inX6 hown hK.1 hP 0 rfl rfl 2 (by decide) (ht _ q_265) (fun _ h9 => h9) rfl dX6_endures_1 ?_
  refine lv_aload_n hx hb dX6_endures_4 rfl (lv_at hl 0 rfl) ?_
  refine va_get (ci := 6) (v := .ref (aN 0)) (C := RX6) (T := TX6) (N := 9) hx hb ht inX6 hown hK.1 hP 0 rfl rfl 1 (by decide) (ht _ q_264) (fun _ h9 => h9) rfl dX6_endures_5 ?_
  refine k_callv (kRunV (As := [.ref (aN 0)]) (rest := []) kx (c_X5_copyFrom l G gT gN aT aN hN) q_439 q_436 q_31 q_437 q_438 nX5_copyFrom ⟨Nat.le_of_ble_eq_true rfl, Nat.le_of_ble_eq_true rfl⟩ hK hP hD (kCtx_in (kCtx_swap0 _ _)) 0 5 rfl rfl rfl rfl hl.1 (Nat.le_of_ble_eq_true rfl) dX6_endures_8 ⟨Nat.zero_le _, Nat.zero_le _⟩) hP hD hS hA (kCtx_in (kCtx_swap0 _ _)) (fun _ => rfl) (fun _ H1 locs1 hw hP1 hD1 hS1 => ?_)
  have hP2 : va_P G.1 vwCl ([(h0, .inr (6, cQ (kc cA) t0 (aN 0) (aT 0) b0 s0 i0 e0 sd))] ++ (cW aN gN ++ (cW aT gN))) H1 := hP1
  have hD3 : va_D A ([(h0, .inr (6, cQ (kc cA) t0 (aN 0) (aT 0) b0 s0 i0 e0 sd))] ++ (cW aN gN ++ (cW aT gN))) := hD1
  refine lv_aload_n hx hb dX6_endures_11 rfl (lv_at hl 0 rfl) ?_
  refine va_get (ci := 6) (v := .ref (aT 0)) (C := RX6) (T := TX6) (N := 9) hx hb ht inX6 hown hK.1 hP2 0 rfl rfl 2 (by decide) (ht _ q_265) (fun _ h9 => h9) rfl dX6_endures_12 ?_
  refine lv_iload_n hx hb dX6_endures_15 rfl (lv_at hl 1 rfl) ?_
  by_cases c2 : p0 = 0
  · skip
    refine k_top (y := 0) c2 ?_
    refine k_callr (kRunV (As := [.int 0]) (rest := []) kx (c_X5_wayTo_0 l G (gN 4) (aT 0) (aT 1) (aT 3) (aT 5) (aT 7)) q_462 q_459 q_31 q_460 q_461 nX5_wayTo ⟨Nat.le_of_ble_eq_true rfl, Nat.le_of_ble_eq_true rfl⟩ hK hP2 hD3 (kCtx_places _ _ [10] rfl rfl) 0 5 rfl rfl rfl rfl hl.1 (Nat.le_of_ble_eq_true rfl) dX6_endures_16 ⟨Nat.zero_le _, Nat.zero_le _⟩) hP2 hD3 hS1 hA (kCtx_places _ _ [10] rfl rfl) (fun _ => rfl) (fun r3 _ H4 locs4 hw hP4 hD4 hS4 => ?_)
    have hr3 : aT 7 = r3 := (show r3 = aT 7 from hw).symm
    subst hr3
    have hP5 : va_P G.1 vwCl ([(h0, .inr (6, cQ (kc cA) t0 (aN 0) (aT 0) b0 s0 i0 e0 sd))] ++ (cW aN gN ++ (cW aT gN))) H4 := hP4
    have hD6 : va_D A ([(h0, .inr (6, cQ (kc cA) t0 (aN 0) (aT 0) b0 s0 i0 e0 sd))] ++ (cW aN gN ++ (cW aT gN))) := hD4
    refine lv_iload_n hx hb dX6_endures_19 rfl (lv_at hl 2 rfl) ?_
    refine va_put (ci := 4) (v := .int p1) (ty := .int) (C := RX4) (T := TX4) (N := 7) hx hb ht inX4 tyX4 tyX4_ok nmX4 hown hK.1 hP5 hD6 hS4 17 rfl rfl 5 (by decide) (ht _ q_173) (fun _ h9 => h9) rfl (by decide +kernel) rfl rfl (Nat.le_of_ble_eq_true rfl) dX6_endures_20 (fun H7 locs7 hP7 hD7 hS7 => ?_)
    have hP8 : va_P G.1 vwCl ([(h0, .inr (6, cQ (kc cA) t0 (aN 0) (aT 0) b0 s0 i0 e0 sd))] ++ (cW aN gN ++ (cW aT (kg (gN 0) (gN 1) (gN 2) (upd (gN 3) 10 p1) (gN 4))))) H7 := hP7
    have hD9 : va_D A ([(h0, .inr (6, cQ (kc cA) t0 (aN 0) (aT 0) b0 s0 i0 e0 sd))] ++ (cW aN gN ++ (cW aT (kg (gN 0) (gN 1) (gN 2) (upd (gN 3) 10 p1) (gN 4))))) := hD7
    refine lv_aload_n hx hb dX6_endures_23 rfl (lv_at hl 0 rfl) ?_
    refine va_get (ci := 6) (v := .ref (aT 0)) (C := RX6) (T := TX6) (N := 9) hx hb ht inX6 hown hK.1 hP8 0 rfl rfl 2 (by decide) (ht _ q_265) (fun _ h9 => h9) rfl dX6_endures_24 ?_
    refine lv_iload_n hx hb dX6_endures_27 rfl (lv_at hl 1 rfl) ?_
    refine k_top (y := 0) c2 ?_
    refine k_callr (kRunV (As := [.int 0]) (rest := []) kx (c_X5_endOf_0 l G (gN 4) (aT 0) (aT 1) (aT 3) (aT 5) (aT 7)) q_329 q_449 q_31 q_327 q_328 nX5_endOf ⟨Nat.le_of_ble_eq_true rfl, Nat.le_of_ble_eq_true rfl⟩ hK hP8 hD9 (kCtx_places _ _ [10] rfl rfl) 0 5 rfl rfl rfl rfl hl.1 (Nat.le_of_ble_eq_true rfl) dX6_endures_28 ⟨Nat.zero_le _, Nat.zero_le _⟩) hP8 hD9 hS7 hA (kCtx_places _ _ [10] rfl rfl) (fun _ => rfl) (fun r4 _ H10 locs10 hw hP10 hD10 hS10 => ?_)
    have hr4 : aT 1 = r4 := (show r4 = aT 1 from hw).symm
    subst hr4
    have hP11 : va_P G.1 vwCl ([(h0, .inr (6, cQ (kc cA) t0 (aN 0) (aT 0) b0 s0 i0 e0 sd))] ++ (cW aN gN ++ (cW aT (kg (gN 0) (gN 1) (gN 2) (upd (gN 3) 10 p1) (gN 4))))) H10 := hP10
    have hD12 : va_D A ([(h0, .inr (6, cQ (kc cA) t0 (aN 0) (aT 0) b0 s0 i0 e0 sd))] ++ (cW aN gN ++ (cW aT (kg (gN 0) (gN 1) (gN 2) (upd (gN 3) 10 p1) (gN 4))))) := hD10
    refine lv_astore_n (lv' := [(3, .ref (aT 1)), (0, .ref h0), (1, .int p0), (2, .int p1)]) hx hb dX6_endures_31 rfl hl (by decide) rfl (fun ls13 hl13 => ?_)
    refine lv_iconst (v := 1) hx hb dX6_endures_32 (by decide) ?_
    refine lv_istore (lv' := [(4, .int 1), (3, .ref (aT 1)), (0, .ref h0), (1, .int p0), (2, .int p1)]) hx hb dX6_endures_33 hl13 (by decide) rfl (fun ls14 hl14 => ?_)
    have lp1 : ∀ (n1 j1 : Nat) (gT_1 : Nat → Nat → Int32), j1 + n1 = 61 → (hr_1 : r_X6_endures gN p0 p1 = l_X6_endures_1_r n1 j1 gT_1) → (hgT_1 : s_X6_endures_gT gN p0 p1 = l_X6_endures_1_gT n1 j1 gT_1) → (hb1 : bW gT_1) → ∀ (H : Heap) (locs : List Loc) (ls : Array Slot), va_P G.1 vwCl ([(h0, .inr (6, cQ (kc cA) t0 (aN 0) (aT 0) b0 s0 i0 e0 sd))] ++ (cW aN gN ++ (cW aT gT_1))) H → va_D A ([(h0, .inr (6, cQ (kc cA) t0 (aN 0) (aT 0) b0 s0 i0 e0 sd))] ++ (cW aN gN ++ (cW aT gT_1))) → va_S A s.heap H locs → lv_has ls 5 [(0, .ref h0), (1, .int p0), (2, .int p1), (3, .ref (aT 1)), (4, .int (nI j1))] → W p l e (kr 4) s m args below meth c H locs 0 0 (MQ below (qI G (fun (r : Int32) (u : (Nat → Nat → Int32)) => r = r_X6_endures gN p0 p1 ∧ u = s_X6_endures_gT gN p0 p1) (fun u => [(h0, .inr (6, cQ (kc cA) t0 (aN 0) (aT 0) b0 s0 i0 e0 sd))] ++ (cW aN gN ++ (cW aT u))) A) args s 0 0 A) (F0 m 35 ls []) := by
      intro n1
      induction n1 with
      | zero =>
        intro j1 gT_1 hj1 hr_1 hgT_1 hb1 H15 locs15 ls15 hP15 hD15 hS15 hl15
        refine lv_iload hx hb dX6_endures_35 (lv_at hl15 4 rfl) ?_
        refine lv_bipush (v := 60) hx hb dX6_endures_37 (by decide) ?_
        refine lv_icmp_gt (x := nI j1) (y := 60) (tgt := 64) hx hb dX6_endures_39 (by decide) (fun (c5 : 60 < nI j1) => ?_) (fun (c5 : ¬ (60 < nI j1)) => absurd (klt_z rfl hj1 (by decide)) c5)
        refine lv_iconst (v := 1) hx hb dX6_endures_64 (by decide) ?_
        have er : r_X6_endures gN p0 p1 = 1 := by rw [hr_1, l_X6_endures_1_r]
        have e0 : s_X6_endures_gT gN p0 p1 = gT_1 := by rw [hgT_1, l_X6_endures_1_gT]
        exact k_zret kx hK hP15 hD15 hS15 (u := gT_1) rfl ⟨er.symm, e0.symm⟩ kb1 dX6_endures_65
      | succ n1 ih1 =>
        intro j1 gT_1 hj1 hr_1 hgT_1 hb1 H15 locs15 ls15 hP15 hD15 hS15 hl15
        refine lv_iload hx hb dX6_endures_35 (lv_at hl15 4 rfl) ?_
        refine lv_bipush (v := 60) hx hb dX6_endures_37 (by decide) ?_
        refine lv_icmp_gt (x := nI j1) (y := 60) (tgt := 64) hx hb dX6_endures_39 (by decide) (fun (c6 : 60 < nI j1) => absurd c6 (klt_s rfl hj1 (by decide))) (fun (c6 : ¬ (60 < nI j1)) => ?_)
        refine lv_aload_n hx hb dX6_endures_42 rfl (lv_at hl15 0 rfl) ?_
        refine va_get (ci := 6) (v := .ref (aT 0)) (C := RX6) (T := TX6) (N := 9) hx hb ht inX6 hown hK.1 hP15 0 rfl rfl 2 (by decide) (ht _ q_265) (fun _ h9 => h9) rfl dX6_endures_43 ?_
        refine k_callv (kRunV (As := []) (rest := []) kx (c_X5_tick l G gT_1 aT hb1) q_359 q_450 q_31 q_357 q_358 nX5_tick ⟨Nat.le_of_ble_eq_true rfl, Nat.le_of_ble_eq_true rfl⟩ hK hP15 hD15 (kCtx_in (kCtx_end _ _)) 0 5 rfl rfl rfl rfl hl15.1 (Nat.le_of_ble_eq_true rfl) dX6_endures_46 ⟨Nat.zero_le _, Nat.zero_le _⟩) hP15 hD15 hS15 hA (kCtx_in (kCtx_end _ _)) (fun _ => rfl) (fun g8 H16 locs16 hw hP16 hD16 hS16 => ?_)
        have hg8 : s_X5_tick_g gT_1 = g8 := (show g8 = s_X5_tick_g gT_1 from hw).symm
        have hP17 : va_P G.1 vwCl ([(h0, .inr (6, cQ (kc cA) t0 (aN 0) (aT 0) b0 s0 i0 e0 sd))] ++ (cW aN gN ++ (cW aT g8))) H16 := hP16
        have hD18 : va_D A ([(h0, .inr (6, cQ (kc cA) t0 (aN 0) (aT 0) b0 s0 i0 e0 sd))] ++ (cW aN gN ++ (cW aT g8))) := hD16
        refine lv_aload_n hx hb dX6_endures_49 rfl (lv_at hl15 3 rfl) ?_
        refine va_get (ci := 0) (v := .int (g8 0 5)) (C := RX0) (T := TX0) (N := 12) hx hb ht inX0 hown hK.1 hP17 11 rfl rfl 5 (by decide) (ht _ q_115) (fun _ h9 => h9) rfl dX6_endures_50 ?_
        refine lv_if_ne (x := g8 0 5) (tgt := 58) hx hb dX6_endures_53 (by decide) (fun (c9 : ¬ (g8 0 5 = 0)) => ?_) (fun (c9 : g8 0 5 = 0) => ?_)
        · skip
          refine lv_iinc (v := nI (j1 + 1)) (lv' := [(4, .int (nI (j1 + 1))), (0, .ref h0), (1, .int p0), (2, .int p1), (3, .ref (aT 1))]) hx hb dX6_endures_58 hl15 (k := 4) rfl (nI_1 j1) (by decide) rfl (fun ls19 hl19 => ?_)
          refine lv_goto (tgt := 35) hx hb dX6_endures_61 (by decide) ?_
          subst hg8
          have gr : r_X6_endures gN p0 p1 = l_X6_endures_1_r n1 (j1 + 1) (s_X5_tick_g gT_1) := by rw [hr_1, l_X6_endures_1_r, if_neg c9]
          have ggT : s_X6_endures_gT gN p0 p1 = l_X6_endures_1_gT n1 (j1 + 1) (s_X5_tick_g gT_1) := by rw [hgT_1, l_X6_endures_1_gT, if_neg c9]
          exact ih1 (j1 + 1) (s_X5_tick_g gT_1) (by omega) gr ggT (b_s_X5_tick_g gT_1 hb1) _ _ _ hP17 hD18 hS16 (lv_sub hl19 [1, 2, 3, 4, 0] rfl)
        · skip
          refine lv_iconst (v := 0) hx hb dX6_endures_56 (by decide) ?_
          have er : r_X6_endures gN p0 p1 = 0 := by rw [hr_1, l_X6_endures_1_r]; (try rw [hg8]); rw [if_pos c9]
          have e0 : s_X6_endures_gT gN p0 p1 = g8 := by rw [hgT_1, l_X6_endures_1_gT]; (try rw [hg8]); rw [if_pos c9]
          exact k_zret kx hK hP17 hD18 hS16 (u := g8) rfl ⟨er.symm, e0.symm⟩ kb0 dX6_endures_57
    have gr : r_X6_endures gN p0 p1 = l_X6_endures_1_r 60 1 (kg (gN 0) (gN 1) (gN 2) (upd (gN 3) 10 p1) (gN 4)) := by rw [r_X6_endures, if_pos c2]
    have ggT : s_X6_endures_gT gN p0 p1 = l_X6_endures_1_gT 60 1 (kg (gN 0) (gN 1) (gN 2) (upd (gN 3) 10 p1) (gN 4)) := by rw [s_X6_endures_gT, if_pos c2]
    exact lp1 60 1 (kg (gN 0) (gN 1) (gN 2) (upd (gN 3) 10 p1) (gN 4)) (by omega) gr ggT (⟨hN.1, hN.2.1, hN.2.2.1, ⟨hN.2.2.2.1, hN.2.2.2.2.1, hN.2.2.2.2.2.1, hN.2.2.2.2.2.2.1, hN.2.2.2.2.2.2.2.1, hN.2.2.2.2.2.2.2.2⟩⟩) _ _ _ hP11 hD12 hS10 (lv_sub hl14 [2, 3, 4, 1, 0] rfl)
  · skip
    refine k_callr (kRunV (As := [.int p0]) (rest := []) kx (c_X5_wayTo_n l G (gN 4) (aT 0) (aT 1) (aT 3) (aT 5) (aT 7) p0 c2) q_462 q_459 q_31 q_460 q_461 nX5_wayTo ⟨Nat.le_of_ble_eq_true rfl, Nat.le_of_ble_eq_true rfl⟩ hK hP2 hD3 (kCtx_places _ _ [10] rfl rfl) 0 5 rfl rfl rfl rfl hl.1 (Nat.le_of_ble_eq_true rfl) dX6_endures_16 ⟨Nat.zero_le _, Nat.zero_le _⟩) hP2 hD3 hS1 hA (kCtx_places _ _ [10] rfl rfl) (fun _ => rfl) (fun r10 _ H20 locs20 hw hP20 hD20 hS20 => ?_)
    have hr10 : aT 5 = r10 := (show r10 = aT 5 from hw).symm
    subst hr10
    have hP21 : va_P G.1 vwCl ([(h0, .inr (6, cQ (kc cA) t0 (aN 0) (aT 0) b0 s0 i0 e0 sd))] ++ (cW aN gN ++ (cW aT gN))) H20 := hP20
    have hD22 : va_D A ([(h0, .inr (6, cQ (kc cA) t0 (aN 0) (aT 0) b0 s0 i0 e0 sd))] ++ (cW aN gN ++ (cW aT gN))) := hD20
    refine lv_iload_n hx hb dX6_endures_19 rfl (lv_at hl 2 rfl) ?_
    refine va_put (ci := 4) (v := .int p1) (ty := .int) (C := RX4) (T := TX4) (N := 7) hx hb ht inX4 tyX4 tyX4_ok nmX4 hown hK.1 hP21 hD22 hS20 15 rfl rfl 5 (by decide) (ht _ q_173) (fun _ h9 => h9) rfl (by decide +kernel) rfl rfl (Nat.le_of_ble_eq_true rfl) dX6_endures_20 (fun H23 locs23 hP23 hD23 hS23 => ?_)
    have hP24 : va_P G.1 vwCl ([(h0, .inr (6, cQ (kc cA) t0 (aN 0) (aT 0) b0 s0 i0 e0 sd))] ++ (cW aN gN ++ (cW aT (kg (gN 0) (gN 1) (upd (gN 2) 10 p1) (gN 3) (gN 4))))) H23 := hP23
    have hD25 : va_D A ([(h0, .inr (6, cQ (kc cA) t0 (aN 0) (aT 0) b0 s0 i0 e0 sd))] ++ (cW aN gN ++ (cW aT (kg (gN 0) (gN 1) (upd (gN 2) 10 p1) (gN 3) (gN 4))))) := hD23
    refine lv_aload_n hx hb dX6_endures_23 rfl (lv_at hl 0 rfl) ?_
    refine va_get (ci := 6) (v := .ref (aT 0)) (C := RX6) (T := TX6) (N := 9) hx hb ht inX6 hown hK.1 hP24 0 rfl rfl 2 (by decide) (ht _ q_265) (fun _ h9 => h9) rfl dX6_endures_24 ?_
    refine lv_iload_n hx hb dX6_endures_27 rfl (lv_at hl 1 rfl) ?_
    refine k_callr (kRunV (As := [.int p0]) (rest := []) kx (c_X5_endOf_n l G (gN 4) (aT 0) (aT 1) (aT 3) (aT 5) (aT 7) p0 c2) q_329 q_449 q_31 q_327 q_328 nX5_endOf ⟨Nat.le_of_ble_eq_true rfl, Nat.le_of_ble_eq_true rfl⟩ hK hP24 hD25 (kCtx_places _ _ [10] rfl rfl) 0 5 rfl rfl rfl rfl hl.1 (Nat.le_of_ble_eq_true rfl) dX6_endures_28 ⟨Nat.zero_le _, Nat.zero_le _⟩) hP24 hD25 hS23 hA (kCtx_places _ _ [10] rfl rfl) (fun _ => rfl) (fun r11 _ H26 locs26 hw hP26 hD26 hS26 => ?_)
    have hr11 : aT 3 = r11 := (show r11 = aT 3 from hw).symm
    subst hr11
    have hP27 : va_P G.1 vwCl ([(h0, .inr (6, cQ (kc cA) t0 (aN 0) (aT 0) b0 s0 i0 e0 sd))] ++ (cW aN gN ++ (cW aT (kg (gN 0) (gN 1) (upd (gN 2) 10 p1) (gN 3) (gN 4))))) H26 := hP26
    have hD28 : va_D A ([(h0, .inr (6, cQ (kc cA) t0 (aN 0) (aT 0) b0 s0 i0 e0 sd))] ++ (cW aN gN ++ (cW aT (kg (gN 0) (gN 1) (upd (gN 2) 10 p1) (gN 3) (gN 4))))) := hD26
    refine lv_astore_n (lv' := [(3, .ref (aT 3)), (0, .ref h0), (1, .int p0), (2, .int p1)]) hx hb dX6_endures_31 rfl hl (by decide) rfl (fun ls29 hl29 => ?_)
    refine lv_iconst (v := 1) hx hb dX6_endures_32 (by decide) ?_
    refine lv_istore (lv' := [(4, .int 1), (3, .ref (aT 3)), (0, .ref h0), (1, .int p0), (2, .int p1)]) hx hb dX6_endures_33 hl29 (by decide) rfl (fun ls30 hl30 => ?_)
    have lp2 : ∀ (n2 j2 : Nat) (gT_2 : Nat → Nat → Int32), j2 + n2 = 61 → (hr_2 : r_X6_endures gN p0 p1 = l_X6_endures_2_r n2 j2 gT_2) → (hgT_2 : s_X6_endures_gT gN p0 p1 = l_X6_endures_2_gT n2 j2 gT_2) → (hb2 : bW gT_2) → ∀ (H : Heap) (locs : List Loc) (ls : Array Slot), va_P G.1 vwCl ([(h0, .inr (6, cQ (kc cA) t0 (aN 0) (aT 0) b0 s0 i0 e0 sd))] ++ (cW aN gN ++ (cW aT gT_2))) H → va_D A ([(h0, .inr (6, cQ (kc cA) t0 (aN 0) (aT 0) b0 s0 i0 e0 sd))] ++ (cW aN gN ++ (cW aT gT_2))) → va_S A s.heap H locs → lv_has ls 5 [(0, .ref h0), (1, .int p0), (2, .int p1), (3, .ref (aT 3)), (4, .int (nI j2))] → W p l e (kr 4) s m args below meth c H locs 0 0 (MQ below (qI G (fun (r : Int32) (u : (Nat → Nat → Int32)) => r = r_X6_endures gN p0 p1 ∧ u = s_X6_endures_gT gN p0 p1) (fun u => [(h0, .inr (6, cQ (kc cA) t0 (aN 0) (aT 0) b0 s0 i0 e0 sd))] ++ (cW aN gN ++ (cW aT u))) A) args s 0 0 A) (F0 m 35 ls []) := by
      intro n2
      induction n2 with
      | zero =>
        intro j2 gT_2 hj2 hr_2 hgT_2 hb2 H31 locs31 ls31 hP31 hD31 hS31 hl31
        refine lv_iload hx hb dX6_endures_35 (lv_at hl31 4 rfl) ?_
        refine lv_bipush (v := 60) hx hb dX6_endures_37 (by decide) ?_
        refine lv_icmp_gt (x := nI j2) (y := 60) (tgt := 64) hx hb dX6_endures_39 (by decide) (fun (c12 : 60 < nI j2) => ?_) (fun (c12 : ¬ (60 < nI j2)) => absurd (klt_z rfl hj2 (by decide)) c12)
        refine lv_iconst (v := 1) hx hb dX6_endures_64 (by decide) ?_
        have er : r_X6_endures gN p0 p1 = 1 := by rw [hr_2, l_X6_endures_2_r]
        have e0 : s_X6_endures_gT gN p0 p1 = gT_2 := by rw [hgT_2, l_X6_endures_2_gT]
        exact k_zret kx hK hP31 hD31 hS31 (u := gT_2) rfl ⟨er.symm, e0.symm⟩ kb1 dX6_endures_65
      | succ n2 ih2 =>
        intro j2 gT_2 hj2 hr_2 hgT_2 hb2 H31 locs31 ls31 hP31 hD31 hS31 hl31
        refine lv_iload hx hb dX6_endures_35 (lv_at hl31 4 rfl) ?_
        refine lv_bipush (v := 60) hx hb dX6_endures_37 (by decide) ?_
        refine lv_icmp_gt (x := nI j2) (y := 60) (tgt := 64) hx hb dX6_endures_39 (by decide) (fun (c13 : 60 < nI j2) => absurd c13 (klt_s rfl hj2 (by decide))) (fun (c13 : ¬ (60 < nI j2)) => ?_)
        refine lv_aload_n hx hb dX6_endures_42 rfl (lv_at hl31 0 rfl) ?_
        refine va_get (ci := 6) (v := .ref (aT 0)) (C := RX6) (T := TX6) (N := 9) hx hb ht inX6 hown hK.1 hP31 0 rfl rfl 2 (by decide) (ht _ q_265) (fun _ h9 => h9) rfl dX6_endures_43 ?_
        refine k_callv (kRunV (As := []) (rest := []) kx (c_X5_tick l G gT_2 aT hb2) q_359 q_450 q_31 q_357 q_358 nX5_tick ⟨Nat.le_of_ble_eq_true rfl, Nat.le_of_ble_eq_true rfl⟩ hK hP31 hD31 (kCtx_in (kCtx_end _ _)) 0 5 rfl rfl rfl rfl hl31.1 (Nat.le_of_ble_eq_true rfl) dX6_endures_46 ⟨Nat.zero_le _, Nat.zero_le _⟩) hP31 hD31 hS31 hA (kCtx_in (kCtx_end _ _)) (fun _ => rfl) (fun g15 H32 locs32 hw hP32 hD32 hS32 => ?_)
        have hg15 : s_X5_tick_g gT_2 = g15 := (show g15 = s_X5_tick_g gT_2 from hw).symm
        have hP33 : va_P G.1 vwCl ([(h0, .inr (6, cQ (kc cA) t0 (aN 0) (aT 0) b0 s0 i0 e0 sd))] ++ (cW aN gN ++ (cW aT g15))) H32 := hP32
        have hD34 : va_D A ([(h0, .inr (6, cQ (kc cA) t0 (aN 0) (aT 0) b0 s0 i0 e0 sd))] ++ (cW aN gN ++ (cW aT g15))) := hD32
        refine lv_aload_n hx hb dX6_endures_49 rfl (lv_at hl31 3 rfl) ?_
        refine va_get (ci := 0) (v := .int (g15 1 5)) (C := RX0) (T := TX0) (N := 12) hx hb ht inX0 hown hK.1 hP33 13 rfl rfl 5 (by decide) (ht _ q_115) (fun _ h9 => h9) rfl dX6_endures_50 ?_
        refine lv_if_ne (x := g15 1 5) (tgt := 58) hx hb dX6_endures_53 (by decide) (fun (c16 : ¬ (g15 1 5 = 0)) => ?_) (fun (c16 : g15 1 5 = 0) => ?_)
        · skip
          refine lv_iinc (v := nI (j2 + 1)) (lv' := [(4, .int (nI (j2 + 1))), (0, .ref h0), (1, .int p0), (2, .int p1), (3, .ref (aT 3))]) hx hb dX6_endures_58 hl31 (k := 4) rfl (nI_1 j2) (by decide) rfl (fun ls35 hl35 => ?_)
          refine lv_goto (tgt := 35) hx hb dX6_endures_61 (by decide) ?_
          subst hg15
          have gr : r_X6_endures gN p0 p1 = l_X6_endures_2_r n2 (j2 + 1) (s_X5_tick_g gT_2) := by rw [hr_2, l_X6_endures_2_r, if_neg c16]
          have ggT : s_X6_endures_gT gN p0 p1 = l_X6_endures_2_gT n2 (j2 + 1) (s_X5_tick_g gT_2) := by rw [hgT_2, l_X6_endures_2_gT, if_neg c16]
          exact ih2 (j2 + 1) (s_X5_tick_g gT_2) (by omega) gr ggT (b_s_X5_tick_g gT_2 hb2) _ _ _ hP33 hD34 hS32 (lv_sub hl35 [1, 2, 3, 4, 0] rfl)
        · skip
          refine lv_iconst (v := 0) hx hb dX6_endures_56 (by decide) ?_
          have er : r_X6_endures gN p0 p1 = 0 := by rw [hr_2, l_X6_endures_2_r]; (try rw [hg15]); rw [if_pos c16]
          have e0 : s_X6_endures_gT gN p0 p1 = g15 := by rw [hgT_2, l_X6_endures_2_gT]; (try rw [hg15]); rw [if_pos c16]
          exact k_zret kx hK hP33 hD34 hS32 (u := g15) rfl ⟨er.symm, e0.symm⟩ kb0 dX6_endures_57
    have gr : r_X6_endures gN p0 p1 = l_X6_endures_2_r 60 1 (kg (gN 0) (gN 1) (upd (gN 2) 10 p1) (gN 3) (gN 4)) := by rw [r_X6_endures, if_neg c2]
    have ggT : s_X6_endures_gT gN p0 p1 = l_X6_endures_2_gT 60 1 (kg (gN 0) (gN 1) (upd (gN 2) 10 p1) (gN 3) (gN 4)) := by rw [s_X6_endures_gT, if_neg c2]
    exact lp2 60 1 (kg (gN 0) (gN 1) (upd (gN 2) 10 p1) (gN 3) (gN 4)) (by omega) gr ggT (⟨hN.1, hN.2.1, ⟨hN.2.2.1.1, hN.2.2.1.2.1, hN.2.2.1.2.2.1, hN.2.2.1.2.2.2.1, hN.2.2.1.2.2.2.2.1, hN.2.2.1.2.2.2.2.2⟩, hN.2.2.2⟩) _ _ _ hP27 hD28 hS26 (lv_sub hl30 [2, 3, 4, 1, 0] rfl)

def r_X6_enduredBy (gN : Nat → Nat → Int32) (p0 : Int32) : Int32 := if p0 = 0 then (if gN 0 5 = 0 then (-9) else if (r_X6_endures gN p0 0) = 0 then (-9) else if (r_X6_endures gN p0 5) = 0 then (if (r_X6_endures gN p0 4) = 0 then (if (r_X6_endures gN p0 3) = 0 then (if (r_X6_endures gN p0 2) = 0 then (if (r_X6_endures gN p0 1) = 0 then 0 else 1) else 2) else 3) else 4) else 5) else if gN 1 5 = 0 then (-9) else if (r_X6_endures gN p0 0) = 0 then (-9) else if (r_X6_endures gN p0 5) = 0 then (if (r_X6_endures gN p0 4) = 0 then (if (r_X6_endures gN p0 3) = 0 then (if (r_X6_endures gN p0 2) = 0 then (if (r_X6_endures gN p0 1) = 0 then 0 else 1) else 2) else 3) else 4) else 5
def s_X6_enduredBy_gT (gN : Nat → Nat → Int32) (gT : Nat → Nat → Int32) (p0 : Int32) : Nat → Nat → Int32 := if p0 = 0 then (if gN 0 5 = 0 then gT else if (r_X6_endures gN p0 0) = 0 then (s_X6_endures_gT gN p0 0) else if (r_X6_endures gN p0 5) = 0 then (if (r_X6_endures gN p0 4) = 0 then (if (r_X6_endures gN p0 3) = 0 then (if (r_X6_endures gN p0 2) = 0 then (if (r_X6_endures gN p0 1) = 0 then (s_X6_endures_gT gN p0 1) else s_X6_endures_gT gN p0 1) else s_X6_endures_gT gN p0 2) else s_X6_endures_gT gN p0 3) else s_X6_endures_gT gN p0 4) else s_X6_endures_gT gN p0 5) else if gN 1 5 = 0 then gT else if (r_X6_endures gN p0 0) = 0 then (s_X6_endures_gT gN p0 0) else if (r_X6_endures gN p0 5) = 0 then (if (r_X6_endures gN p0 4) = 0 then (if (r_X6_endures gN p0 3) = 0 then (if (r_X6_endures gN p0 2) = 0 then (if (r_X6_endures gN p0 1) = 0 then (s_X6_endures_gT gN p0 1) else s_X6_endures_gT gN p0 1) else s_X6_endures_gT gN p0 2) else s_X6_endures_gT gN p0 3) else s_X6_endures_gT gN p0 4) else s_X6_endures_gT gN p0 5
set_option maxHeartbeats 4000000 in
set_option maxRecDepth 100000 in
theorem c_X6_enduredBy (l : Launch) (G : kG) (cA : Int32) (sd : Int64) (h0 : Nat) (t0 : Nat) (aN : Nat → Nat) (aT : Nat → Nat) (b0 : Nat) (s0 : Nat) (i0 : Nat) (e0 : Nat) (gN : Nat → Nat → Int32) (gT : Nat → Nat → Int32) (p0 : Int32) (hN : bW gN) : cG l G yX6_enduredBy cX6_enduredBy 3 (some .int) 5 [.ref h0, .int p0] ([(h0, .inr (6, cQ (kc cA) t0 (aN 0) (aT 0) b0 s0 i0 e0 sd))] ++ (cW aN gN ++ (cW aT gT))) (qI G (fun (r : Int32) (u : (Nat → Nat → Int32)) => r = r_X6_enduredBy gN p0 ∧ u = s_X6_enduredBy_gT gN gT p0) (fun u => [(h0, .inr (6, cQ (kc cA) t0 (aN 0) (aT 0) b0 s0 i0 e0 sd))] ++ (cW aN gN ++ (cW aT u)))) := by
  refine kintro (by decide) (Nat.le_of_ble_eq_true rfl) ?_
  intro p e s m args below meth c A ls kx hK hP hD hS hA hl
  have kx : kX p s m args meth c cX6_enduredBy 3 (some .int) RX6 := kx
  have hx := kx.1
  have hb := kx.2.1
  have hown := kx.2.2.2.2.1
  have ht := kx.2.2.2.2.2.2
  have hl : lv_has ls 3 [(0, .ref h0), (1, .int p0)] := hl
  refine lv_aload_n hx hb dX6_enduredBy_0 rfl (lv_at hl 0 rfl) ?_
  refine va_get (ci := 6) (v := .ref (aN 0)) (C := RX6) (T := TX6) (N := 9) hx hb ht inX6 hown hK.1 hP 0 rfl rfl 1 (by decide) (ht _ q_264) (fun _ h9 => h9) rfl dX6_enduredBy_1 ?_
  refine lv_iload_n hx hb dX6_enduredBy_4 rfl (lv_at hl 1 rfl) ?_
  by_cases c1 : p0 = 0
  · skip
    refine k_top (y := 0) c1 ?_
    refine k_callr (kRunV (As := [.int 0]) (rest := []) kx (c_X5_endOf_0 l G (gN 4) (aN 0) (aN 1) (aN 3) (aN 5) (aN 7)) q_329 q_449 q_31 q_327 q_328 nX5_endOf ⟨Nat.le_of_ble_eq_true rfl, Nat.le_of_ble_eq_true rfl⟩ hK hP hD (kCtx_places _ _ [1] rfl rfl) 0 5 rfl rfl rfl rfl hl.1 (Nat.le_of_ble_eq_true rfl) dX6_enduredBy_5 ⟨Nat.zero_le _, Nat.zero_le _⟩) hP hD hS hA (kCtx_places _ _ [1] rfl rfl) (fun _ => rfl) (fun r2 _ H1 locs1 hw hP1 hD1 hS1 => ?_)
    have hr2 : aN 1 = r2 := (show r2 = aN 1 from hw).symm
    subst hr2
    have hP2 : va_P G.1 vwCl ([(h0, .inr (6, cQ (kc cA) t0 (aN 0) (aT 0) b0 s0 i0 e0 sd))] ++ (cW aN gN ++ (cW aT gT))) H1 := hP1
    have hD3 : va_D A ([(h0, .inr (6, cQ (kc cA) t0 (aN 0) (aT 0) b0 s0 i0 e0 sd))] ++ (cW aN gN ++ (cW aT gT))) := hD1
    refine va_get (ci := 0) (v := .int (gN 0 5)) (C := RX0) (T := TX0) (N := 12) hx hb ht inX0 hown hK.1 hP2 2 rfl rfl 5 (by decide) (ht _ q_115) (fun _ h9 => h9) rfl dX6_enduredBy_8 ?_
    refine lv_if_eq (x := gN 0 5) (tgt := 23) hx hb dX6_enduredBy_11 (by decide) (fun (c3 : gN 0 5 = 0) => ?_) (fun (c3 : ¬ (gN 0 5 = 0)) => ?_)
    · skip
      refine lv_bipush (v := (-9)) hx hb dX6_enduredBy_23 (by decide) ?_
      have er : r_X6_enduredBy gN p0 = (-9) := by rw [r_X6_enduredBy, if_pos c1, if_pos c3]
      have e0 : s_X6_enduredBy_gT gN gT p0 = gT := by rw [s_X6_enduredBy_gT, if_pos c1, if_pos c3]
      exact k_iret kx hK hP2 hD3 hS1 (u := gT) rfl ⟨er.symm, e0.symm⟩ dX6_enduredBy_25
    · skip
      refine lv_aload_n hx hb dX6_enduredBy_14 rfl (lv_at hl 0 rfl) ?_
      refine lv_iload_n hx hb dX6_enduredBy_15 rfl (lv_at hl 1 rfl) ?_
      refine lv_iconst (v := 0) hx hb dX6_enduredBy_16 (by decide) ?_
      refine k_calli (kRunV (As := [.int p0, .int 0]) (rest := []) kx (c_X6_endures l G cA sd h0 t0 aN aT b0 s0 i0 e0 gN gT p0 0 hN) q_458 q_455 q_29 q_457 q_4 nX6_endures ⟨Nat.le_of_ble_eq_true rfl, Nat.le_of_ble_eq_true rfl⟩ hK hP2 hD3 (kCtx_all _) 0 6 rfl rfl rfl rfl hl.1 (Nat.le_of_ble_eq_true rfl) dX6_enduredBy_17 ⟨Nat.zero_le _, Nat.zero_le _⟩) hP2 hD3 hS1 hA (kCtx_all _) (fun _ => rfl) (fun r4 g5 H4 locs4 hw hP4 hD4 hS4 => ?_)
      obtain ⟨hr4, hg5⟩ := hw
      have hr4 : r_X6_endures gN p0 0 = r4 := (show r4 = r_X6_endures gN p0 0 from hr4).symm
      have hg5 : s_X6_endures_gT gN p0 0 = g5 := (show g5 = s_X6_endures_gT gN p0 0 from hg5).symm
      have hP5 : va_P G.1 vwCl ([(h0, .inr (6, cQ (kc cA) t0 (aN 0) (aT 0) b0 s0 i0 e0 sd))] ++ (cW aN gN ++ (cW aT g5))) H4 := hP4
      have hD6 : va_D A ([(h0, .inr (6, cQ (kc cA) t0 (aN 0) (aT 0) b0 s0 i0 e0 sd))] ++ (cW aN gN ++ (cW aT g5))) := hD4
      refine lv_if_ne (x := r4) (tgt := 26) hx hb dX6_enduredBy_20 (by decide) (fun (c6 : ¬ (r4 = 0)) => ?_) (fun (c6 : r4 = 0) => ?_)
      · skip
        refine lv_iconst (v := 5) hx hb dX6_enduredBy_26 (by decide) ?_
        refine lv_istore_n (lv' := [(2, .int 5), (0, .ref h0), (1, .int p0)]) hx hb dX6_enduredBy_27 rfl hl (by decide) rfl (fun ls7 hl7 => ?_)
        refine lv_iload_n hx hb dX6_enduredBy_28 rfl (lv_at hl7 0 rfl) ?_
        refine lv_if_le (x := 5) (tgt := 49) hx hb dX6_enduredBy_29 (by decide) (fun (c7 : 5 ≤ 0) => absurd c7 (by decide)) (fun (c7 : ¬ (5 ≤ 0)) => ?_)
        refine lv_aload_n hx hb dX6_enduredBy_32 rfl (lv_at hl7 1 rfl) ?_
        refine lv_iload_n hx hb dX6_enduredBy_33 rfl (lv_at hl7 2 rfl) ?_
        refine lv_iload_n hx hb dX6_enduredBy_34 rfl (lv_at hl7 0 rfl) ?_
        refine k_calli (kRunV (As := [.int p0, .int 5]) (rest := []) kx (c_X6_endures l G cA sd h0 t0 aN aT b0 s0 i0 e0 gN g5 p0 5 hN) q_458 q_455 q_29 q_457 q_4 nX6_endures ⟨Nat.le_of_ble_eq_true rfl, Nat.le_of_ble_eq_true rfl⟩ hK hP5 hD6 (kCtx_all _) 0 6 rfl rfl rfl rfl hl7.1 (Nat.le_of_ble_eq_true rfl) dX6_enduredBy_35 ⟨Nat.zero_le _, Nat.zero_le _⟩) hP5 hD6 hS4 hA (kCtx_all _) (fun _ => rfl) (fun r8 g9 H8 locs8 hw hP8 hD8 hS8 => ?_)
        obtain ⟨hr8, hg9⟩ := hw
        have hr8 : r_X6_endures gN p0 5 = r8 := (show r8 = r_X6_endures gN p0 5 from hr8).symm
        have hg9 : s_X6_endures_gT gN p0 5 = g9 := (show g9 = s_X6_endures_gT gN p0 5 from hg9).symm
        have hP9 : va_P G.1 vwCl ([(h0, .inr (6, cQ (kc cA) t0 (aN 0) (aT 0) b0 s0 i0 e0 sd))] ++ (cW aN gN ++ (cW aT g9))) H8 := hP8
        have hD10 : va_D A ([(h0, .inr (6, cQ (kc cA) t0 (aN 0) (aT 0) b0 s0 i0 e0 sd))] ++ (cW aN gN ++ (cW aT g9))) := hD8
        refine lv_if_eq (x := r8) (tgt := 43) hx hb dX6_enduredBy_38 (by decide) (fun (c10 : r8 = 0) => ?_) (fun (c10 : ¬ (r8 = 0)) => ?_)
        · skip
          refine lv_iinc (v := 4) (lv' := [(2, .int 4), (0, .ref h0), (1, .int p0)]) hx hb dX6_enduredBy_43 hl7 (k := 0) rfl (by decide +kernel) (by decide) rfl (fun ls11 hl11 => ?_)
          refine lv_goto (tgt := 28) hx hb dX6_enduredBy_46 (by decide) ?_
          refine lv_iload_n hx hb dX6_enduredBy_28 rfl (lv_at hl11 0 rfl) ?_
          refine lv_if_le (x := 4) (tgt := 49) hx hb dX6_enduredBy_29 (by decide) (fun (c11 : 4 ≤ 0) => absurd c11 (by decide)) (fun (c11 : ¬ (4 ≤ 0)) => ?_)
          refine lv_aload_n hx hb dX6_enduredBy_32 rfl (lv_at hl11 1 rfl) ?_
          refine lv_iload_n hx hb dX6_enduredBy_33 rfl (lv_at hl11 2 rfl) ?_
          refine lv_iload_n hx hb dX6_enduredBy_34 rfl (lv_at hl11 0 rfl) ?_
          refine k_calli (kRunV (As := [.int p0, .int 4]) (rest := []) kx (c_X6_endures l G cA sd h0 t0 aN aT b0 s0 i0 e0 gN g9 p0 4 hN) q_458 q_455 q_29 q_457 q_4 nX6_endures ⟨Nat.le_of_ble_eq_true rfl, Nat.le_of_ble_eq_true rfl⟩ hK hP9 hD10 (kCtx_all _) 0 6 rfl rfl rfl rfl hl11.1 (Nat.le_of_ble_eq_true rfl) dX6_enduredBy_35 ⟨Nat.zero_le _, Nat.zero_le _⟩) hP9 hD10 hS8 hA (kCtx_all _) (fun _ => rfl) (fun r12 g13 H12 locs12 hw hP12 hD12 hS12 => ?_)
          obtain ⟨hr12, hg13⟩ := hw
          have hr12 : r_X6_endures gN p0 4 = r12 := (show r12 = r_X6_endures gN p0 4 from hr12).symm
          have hg13 : s_X6_endures_gT gN p0 4 = g13 := (show g13 = s_X6_endures_gT gN p0 4 from hg13).symm
          have hP13 : va_P G.1 vwCl ([(h0, .inr (6, cQ (kc cA) t0 (aN 0) (aT 0) b0 s0 i0 e0 sd))] ++ (cW aN gN ++ (cW aT g13))) H12 := hP12
          have hD14 : va_D A ([(h0, .inr (6, cQ (kc cA) t0 (aN 0) (aT 0) b0 s0 i0 e0 sd))] ++ (cW aN gN ++ (cW aT g13))) := hD12
          refine lv_if_eq (x := r12) (tgt := 43) hx hb dX6_enduredBy_38 (by decide) (fun (c14 : r12 = 0) => ?_) (fun (c14 : ¬ (r12 = 0)) => ?_)
          · skip
            refine lv_iinc (v := 3) (lv' := [(2, .int 3), (0, .ref h0), (1, .int p0)]) hx hb dX6_enduredBy_43 hl11 (k := 0) rfl (by decide +kernel) (by decide) rfl (fun ls15 hl15 => ?_)
            refine lv_goto (tgt := 28) hx hb dX6_enduredBy_46 (by decide) ?_
            refine lv_iload_n hx hb dX6_enduredBy_28 rfl (lv_at hl15 0 rfl) ?_
            refine lv_if_le (x := 3) (tgt := 49) hx hb dX6_enduredBy_29 (by decide) (fun (c15 : 3 ≤ 0) => absurd c15 (by decide)) (fun (c15 : ¬ (3 ≤ 0)) => ?_)
            refine lv_aload_n hx hb dX6_enduredBy_32 rfl (lv_at hl15 1 rfl) ?_
            refine lv_iload_n hx hb dX6_enduredBy_33 rfl (lv_at hl15 2 rfl) ?_
            refine lv_iload_n hx hb dX6_enduredBy_34 rfl (lv_at hl15 0 rfl) ?_
            refine k_calli (kRunV (As := [.int p0, .int 3]) (rest := []) kx (c_X6_endures l G cA sd h0 t0 aN aT b0 s0 i0 e0 gN g13 p0 3 hN) q_458 q_455 q_29 q_457 q_4 nX6_endures ⟨Nat.le_of_ble_eq_true rfl, Nat.le_of_ble_eq_true rfl⟩ hK hP13 hD14 (kCtx_all _) 0 6 rfl rfl rfl rfl hl15.1 (Nat.le_of_ble_eq_true rfl) dX6_enduredBy_35 ⟨Nat.zero_le _, Nat.zero_le _⟩) hP13 hD14 hS12 hA (kCtx_all _) (fun _ => rfl) (fun r16 g17 H16 locs16 hw hP16 hD16 hS16 => ?_)
            obtain ⟨hr16, hg17⟩ := hw
            have hr16 : r_X6_endures gN p0 3 = r16 := (show r16 = r_X6_endures gN p0 3 from hr16).symm
            have hg17 : s_X6_endures_gT gN p0 3 = g17 := (show g17 = s_X6_endures_gT gN p0 3 from hg17).symm
            have hP17 : va_P G.1 vwCl ([(h0, .inr (6, cQ (kc cA) t0 (aN 0) (aT 0) b0 s0 i0 e0 sd))] ++ (cW aN gN ++ (cW aT g17))) H16 := hP16
            have hD18 : va_D A ([(h0, .inr (6, cQ (kc cA) t0 (aN 0) (aT 0) b0 s0 i0 e0 sd))] ++ (cW aN gN ++ (cW aT g17))) := hD16
            refine lv_if_eq (x := r16) (tgt := 43) hx hb dX6_enduredBy_38 (by decide) (fun (c18 : r16 = 0) => ?_) (fun (c18 : ¬ (r16 = 0)) => ?_)
            · skip
              refine lv_iinc (v := 2) (lv' := [(2, .int 2), (0, .ref h0), (1, .int p0)]) hx hb dX6_enduredBy_43 hl15 (k := 0) rfl (by decide +kernel) (by decide) rfl (fun ls19 hl19 => ?_)
              refine lv_goto (tgt := 28) hx hb dX6_enduredBy_46 (by decide) ?_
              refine lv_iload_n hx hb dX6_enduredBy_28 rfl (lv_at hl19 0 rfl) ?_
              refine lv_if_le (x := 2) (tgt := 49) hx hb dX6_enduredBy_29 (by decide) (fun (c19 : 2 ≤ 0) => absurd c19 (by decide)) (fun (c19 : ¬ (2 ≤ 0)) => ?_)
              refine lv_aload_n hx hb dX6_enduredBy_32 rfl (lv_at hl19 1 rfl) ?_
              refine lv_iload_n hx hb dX6_enduredBy_33 rfl (lv_at hl19 2 rfl) ?_
              refine lv_iload_n hx hb dX6_enduredBy_34 rfl (lv_at hl19 0 rfl) ?_
              refine k_calli (kRunV (As := [.int p0, .int 2]) (rest := []) kx (c_X6_endures l G cA sd h0 t0 aN aT b0 s0 i0 e0 gN g17 p0 2 hN) q_458 q_455 q_29 q_457 q_4 nX6_endures ⟨Nat.le_of_ble_eq_true rfl, Nat.le_of_ble_eq_true rfl⟩ hK hP17 hD18 (kCtx_all _) 0 6 rfl rfl rfl rfl hl19.1 (Nat.le_of_ble_eq_true rfl) dX6_enduredBy_35 ⟨Nat.zero_le _, Nat.zero_le _⟩) hP17 hD18 hS16 hA (kCtx_all _) (fun _ => rfl) (fun r20 g21 H20 locs20 hw hP20 hD20 hS20 => ?_)
              obtain ⟨hr20, hg21⟩ := hw
              have hr20 : r_X6_endures gN p0 2 = r20 := (show r20 = r_X6_endures gN p0 2 from hr20).symm
              have hg21 : s_X6_endures_gT gN p0 2 = g21 := (show g21 = s_X6_endures_gT gN p0 2 from hg21).symm
              have hP21 : va_P G.1 vwCl ([(h0, .inr (6, cQ (kc cA) t0 (aN 0) (aT 0) b0 s0 i0 e0 sd))] ++ (cW aN gN ++ (cW aT g21))) H20 := hP20
              have hD22 : va_D A ([(h0, .inr (6, cQ (kc cA) t0 (aN 0) (aT 0) b0 s0 i0 e0 sd))] ++ (cW aN gN ++ (cW aT g21))) := hD20
              refine lv_if_eq (x := r20) (tgt := 43) hx hb dX6_enduredBy_38 (by decide) (fun (c22 : r20 = 0) => ?_) (fun (c22 : ¬ (r20 = 0)) => ?_)
              · skip
                refine lv_iinc (v := 1) (lv' := [(2, .int 1), (0, .ref h0), (1, .int p0)]) hx hb dX6_enduredBy_43 hl19 (k := 0) rfl (by decide +kernel) (by decide) rfl (fun ls23 hl23 => ?_)
                refine lv_goto (tgt := 28) hx hb dX6_enduredBy_46 (by decide) ?_
                refine lv_iload_n hx hb dX6_enduredBy_28 rfl (lv_at hl23 0 rfl) ?_
                refine lv_if_le (x := 1) (tgt := 49) hx hb dX6_enduredBy_29 (by decide) (fun (c23 : 1 ≤ 0) => absurd c23 (by decide)) (fun (c23 : ¬ (1 ≤ 0)) => ?_)
                refine lv_aload_n hx hb dX6_enduredBy_32 rfl (lv_at hl23 1 rfl) ?_
                refine lv_iload_n hx hb dX6_enduredBy_33 rfl (lv_at hl23 2 rfl) ?_
                refine lv_iload_n hx hb dX6_enduredBy_34 rfl (lv_at hl23 0 rfl) ?_
                refine k_calli (kRunV (As := [.int p0, .int 1]) (rest := []) kx (c_X6_endures l G cA sd h0 t0 aN aT b0 s0 i0 e0 gN g21 p0 1 hN) q_458 q_455 q_29 q_457 q_4 nX6_endures ⟨Nat.le_of_ble_eq_true rfl, Nat.le_of_ble_eq_true rfl⟩ hK hP21 hD22 (kCtx_all _) 0 6 rfl rfl rfl rfl hl23.1 (Nat.le_of_ble_eq_true rfl) dX6_enduredBy_35 ⟨Nat.zero_le _, Nat.zero_le _⟩) hP21 hD22 hS20 hA (kCtx_all _) (fun _ => rfl) (fun r24 g25 H24 locs24 hw hP24 hD24 hS24 => ?_)
                obtain ⟨hr24, hg25⟩ := hw
                have hr24 : r_X6_endures gN p0 1 = r24 := (show r24 = r_X6_endures gN p0 1 from hr24).symm
                have hg25 : s_X6_endures_gT gN p0 1 = g25 := (show g25 = s_X6_endures_gT gN p0 1 from hg25).symm
                have hP25 : va_P G.1 vwCl ([(h0, .inr (6, cQ (kc cA) t0 (aN 0) (aT 0) b0 s0 i0 e0 sd))] ++ (cW aN gN ++ (cW aT g25))) H24 := hP24
                have hD26 : va_D A ([(h0, .inr (6, cQ (kc cA) t0 (aN 0) (aT 0) b0 s0 i0 e0 sd))] ++ (cW aN gN ++ (cW aT g25))) := hD24
                refine lv_if_eq (x := r24) (tgt := 43) hx hb dX6_enduredBy_38 (by decide) (fun (c26 : r24 = 0) => ?_) (fun (c26 : ¬ (r24 = 0)) => ?_)
                · skip
                  refine lv_iinc (v := 0) (lv' := [(2, .int 0), (0, .ref h0), (1, .int p0)]) hx hb dX6_enduredBy_43 hl23 (k := 0) rfl (by decide +kernel) (by decide) rfl (fun ls27 hl27 => ?_)
                  refine lv_goto (tgt := 28) hx hb dX6_enduredBy_46 (by decide) ?_
                  refine lv_iload_n hx hb dX6_enduredBy_28 rfl (lv_at hl27 0 rfl) ?_
                  refine lv_if_le (x := 0) (tgt := 49) hx hb dX6_enduredBy_29 (by decide) (fun (c27 : 0 ≤ 0) => ?_) (fun (c27 : ¬ (0 ≤ 0)) => absurd (by decide) c27)
                  refine lv_iconst (v := 0) hx hb dX6_enduredBy_49 (by decide) ?_
                  have er : r_X6_enduredBy gN p0 = 0 := by rw [r_X6_enduredBy]; (try rw [hg5]); (try rw [hr4]); (try rw [hg9]); (try rw [hr8]); (try rw [hg13]); (try rw [hr12]); (try rw [hg17]); (try rw [hr16]); (try rw [hg21]); (try rw [hr20]); (try rw [hg25]); (try rw [hr24]); rw [if_pos c1, if_neg c3, if_neg c6, if_pos c10, if_pos c14, if_pos c18, if_pos c22, if_pos c26]
                  have e0 : s_X6_enduredBy_gT gN gT p0 = g25 := by rw [s_X6_enduredBy_gT]; (try rw [hg5]); (try rw [hr4]); (try rw [hg9]); (try rw [hr8]); (try rw [hg13]); (try rw [hr12]); (try rw [hg17]); (try rw [hr16]); (try rw [hg21]); (try rw [hr20]); (try rw [hg25]); (try rw [hr24]); rw [if_pos c1, if_neg c3, if_neg c6, if_pos c10, if_pos c14, if_pos c18, if_pos c22, if_pos c26]
                  exact k_iret kx hK hP25 hD26 hS24 (u := g25) rfl ⟨er.symm, e0.symm⟩ dX6_enduredBy_50
                · skip
                  refine lv_iload_n hx hb dX6_enduredBy_41 rfl (lv_at hl23 0 rfl) ?_
                  have er : r_X6_enduredBy gN p0 = 1 := by rw [r_X6_enduredBy]; (try rw [hg5]); (try rw [hr4]); (try rw [hg9]); (try rw [hr8]); (try rw [hg13]); (try rw [hr12]); (try rw [hg17]); (try rw [hr16]); (try rw [hg21]); (try rw [hr20]); (try rw [hg25]); (try rw [hr24]); rw [if_pos c1, if_neg c3, if_neg c6, if_pos c10, if_pos c14, if_pos c18, if_pos c22, if_neg c26]
                  have e0 : s_X6_enduredBy_gT gN gT p0 = g25 := by rw [s_X6_enduredBy_gT]; (try rw [hg5]); (try rw [hr4]); (try rw [hg9]); (try rw [hr8]); (try rw [hg13]); (try rw [hr12]); (try rw [hg17]); (try rw [hr16]); (try rw [hg21]); (try rw [hr20]); (try rw [hg25]); (try rw [hr24]); rw [if_pos c1, if_neg c3, if_neg c6, if_pos c10, if_pos c14, if_pos c18, if_pos c22, if_neg c26]
                  exact k_iret kx hK hP25 hD26 hS24 (u := g25) rfl ⟨er.symm, e0.symm⟩ dX6_enduredBy_42
              · skip
                refine lv_iload_n hx hb dX6_enduredBy_41 rfl (lv_at hl19 0 rfl) ?_
                have er : r_X6_enduredBy gN p0 = 2 := by rw [r_X6_enduredBy]; (try rw [hg5]); (try rw [hr4]); (try rw [hg9]); (try rw [hr8]); (try rw [hg13]); (try rw [hr12]); (try rw [hg17]); (try rw [hr16]); (try rw [hg21]); (try rw [hr20]); rw [if_pos c1, if_neg c3, if_neg c6, if_pos c10, if_pos c14, if_pos c18, if_neg c22]
                have e0 : s_X6_enduredBy_gT gN gT p0 = g21 := by rw [s_X6_enduredBy_gT]; (try rw [hg5]); (try rw [hr4]); (try rw [hg9]); (try rw [hr8]); (try rw [hg13]); (try rw [hr12]); (try rw [hg17]); (try rw [hr16]); (try rw [hg21]); (try rw [hr20]); rw [if_pos c1, if_neg c3, if_neg c6, if_pos c10, if_pos c14, if_pos c18, if_neg c22]
                exact k_iret kx hK hP21 hD22 hS20 (u := g21) rfl ⟨er.symm, e0.symm⟩ dX6_enduredBy_42
            · skip
              refine lv_iload_n hx hb dX6_enduredBy_41 rfl (lv_at hl15 0 rfl) ?_
              have er : r_X6_enduredBy gN p0 = 3 := by rw [r_X6_enduredBy]; (try rw [hg5]); (try rw [hr4]); (try rw [hg9]); (try rw [hr8]); (try rw [hg13]); (try rw [hr12]); (try rw [hg17]); (try rw [hr16]); rw [if_pos c1, if_neg c3, if_neg c6, if_pos c10, if_pos c14, if_neg c18]
              have e0 : s_X6_enduredBy_gT gN gT p0 = g17 := by rw [s_X6_enduredBy_gT]; (try rw [hg5]); (try rw [hr4]); (try rw [hg9]); (try rw [hr8]); (try rw [hg13]); (try rw [hr12]); (try rw [hg17]); (try rw [hr16]); rw [if_pos c1, if_neg c3, if_neg c6, if_pos c10, if_pos c14, if_neg c18]
              exact k_iret kx hK hP17 hD18 hS16 (u := g17) rfl ⟨er.symm, e0.symm⟩ dX6_enduredBy_42
          · skip
            refine lv_iload_n hx hb dX6_enduredBy_41 rfl (lv_at hl11 0 rfl) ?_
            have er : r_X6_enduredBy gN p0 = 4 := by rw [r_X6_enduredBy]; (try rw [hg5]); (try rw [hr4]); (try rw [hg9]); (try rw [hr8]); (try rw [hg13]); (try rw [hr12]); rw [if_pos c1, if_neg c3, if_neg c6, if_pos c10, if_neg c14]
            have e0 : s_X6_enduredBy_gT gN gT p0 = g13 := by rw [s_X6_enduredBy_gT]; (try rw [hg5]); (try rw [hr4]); (try rw [hg9]); (try rw [hr8]); (try rw [hg13]); (try rw [hr12]); rw [if_pos c1, if_neg c3, if_neg c6, if_pos c10, if_neg c14]
            exact k_iret kx hK hP13 hD14 hS12 (u := g13) rfl ⟨er.symm, e0.symm⟩ dX6_enduredBy_42
        · skip
          refine lv_iload_n hx hb dX6_enduredBy_41 rfl (lv_at hl7 0 rfl) ?_
          have er : r_X6_enduredBy gN p0 = 5 := by rw [r_X6_enduredBy]; (try rw [hg5]); (try rw [hr4]); (try rw [hg9]); (try rw [hr8]); rw [if_pos c1, if_neg c3, if_neg c6, if_neg c10]
          have e0 : s_X6_enduredBy_gT gN gT p0 = g9 := by rw [s_X6_enduredBy_gT]; (try rw [hg5]); (try rw [hr4]); (try rw [hg9]); (try rw [hr8]); rw [if_pos c1, if_neg c3, if_neg c6, if_neg c10]
          exact k_iret kx hK hP9 hD10 hS8 (u := g9) rfl ⟨er.symm, e0.symm⟩ dX6_enduredBy_42
      · skip
        refine lv_bipush (v := (-9)) hx hb dX6_enduredBy_23 (by decide) ?_
        have er : r_X6_enduredBy gN p0 = (-9) := by rw [r_X6_enduredBy]; (try rw [hg5]); (try rw [hr4]); rw [if_pos c1, if_neg c3, if_pos c6]
        have e0 : s_X6_enduredBy_gT gN gT p0 = g5 := by rw [s_X6_enduredBy_gT]; (try rw [hg5]); (try rw [hr4]); rw [if_pos c1, if_neg c3, if_pos c6]
        exact k_iret kx hK hP5 hD6 hS4 (u := g5) rfl ⟨er.symm, e0.symm⟩ dX6_enduredBy_25
  · skip
    refine k_callr (kRunV (As := [.int p0]) (rest := []) kx (c_X5_endOf_n l G (gN 4) (aN 0) (aN 1) (aN 3) (aN 5) (aN 7) p0 c1) q_329 q_449 q_31 q_327 q_328 nX5_endOf ⟨Nat.le_of_ble_eq_true rfl, Nat.le_of_ble_eq_true rfl⟩ hK hP hD (kCtx_places _ _ [1] rfl rfl) 0 5 rfl rfl rfl rfl hl.1 (Nat.le_of_ble_eq_true rfl) dX6_enduredBy_5 ⟨Nat.zero_le _, Nat.zero_le _⟩) hP hD hS hA (kCtx_places _ _ [1] rfl rfl) (fun _ => rfl) (fun r28 _ H28 locs28 hw hP28 hD28 hS28 => ?_)
    have hr28 : aN 3 = r28 := (show r28 = aN 3 from hw).symm
    subst hr28
    have hP29 : va_P G.1 vwCl ([(h0, .inr (6, cQ (kc cA) t0 (aN 0) (aT 0) b0 s0 i0 e0 sd))] ++ (cW aN gN ++ (cW aT gT))) H28 := hP28
    have hD30 : va_D A ([(h0, .inr (6, cQ (kc cA) t0 (aN 0) (aT 0) b0 s0 i0 e0 sd))] ++ (cW aN gN ++ (cW aT gT))) := hD28
    refine va_get (ci := 0) (v := .int (gN 1 5)) (C := RX0) (T := TX0) (N := 12) hx hb ht inX0 hown hK.1 hP29 4 rfl rfl 5 (by decide) (ht _ q_115) (fun _ h9 => h9) rfl dX6_enduredBy_8 ?_
    refine lv_if_eq (x := gN 1 5) (tgt := 23) hx hb dX6_enduredBy_11 (by decide) (fun (c29 : gN 1 5 = 0) => ?_) (fun (c29 : ¬ (gN 1 5 = 0)) => ?_)
    · skip
      refine lv_bipush (v := (-9)) hx hb dX6_enduredBy_23 (by decide) ?_
      have er : r_X6_enduredBy gN p0 = (-9) := by rw [r_X6_enduredBy, if_neg c1, if_pos c29]
      have e0 : s_X6_enduredBy_gT gN gT p0 = gT := by rw [s_X6_enduredBy_gT, if_neg c1, if_pos c29]
      exact k_iret kx hK hP29 hD30 hS28 (u := gT) rfl ⟨er.symm, e0.symm⟩ dX6_enduredBy_25
    · skip
      refine lv_aload_n hx hb dX6_enduredBy_14 rfl (lv_at hl 0 rfl) ?_
      refine lv_iload_n hx hb dX6_enduredBy_15 rfl (lv_at hl 1 rfl) ?_
      refine lv_iconst (v := 0) hx hb dX6_enduredBy_16 (by decide) ?_
      refine k_calli (kRunV (As := [.int p0, .int 0]) (rest := []) kx (c_X6_endures l G cA sd h0 t0 aN aT b0 s0 i0 e0 gN gT p0 0 hN) q_458 q_455 q_29 q_457 q_4 nX6_endures ⟨Nat.le_of_ble_eq_true rfl, Nat.le_of_ble_eq_true rfl⟩ hK hP29 hD30 (kCtx_all _) 0 6 rfl rfl rfl rfl hl.1 (Nat.le_of_ble_eq_true rfl) dX6_enduredBy_17 ⟨Nat.zero_le _, Nat.zero_le _⟩) hP29 hD30 hS28 hA (kCtx_all _) (fun _ => rfl) (fun r30 g31 H31 locs31 hw hP31 hD31 hS31 => ?_)
      obtain ⟨hr30, hg31⟩ := hw
      have hr30 : r_X6_endures gN p0 0 = r30 := (show r30 = r_X6_endures gN p0 0 from hr30).symm
      have hg31 : s_X6_endures_gT gN p0 0 = g31 := (show g31 = s_X6_endures_gT gN p0 0 from hg31).symm
      have hP32 : va_P G.1 vwCl ([(h0, .inr (6, cQ (kc cA) t0 (aN 0) (aT 0) b0 s0 i0 e0 sd))] ++ (cW aN gN ++ (cW aT g31))) H31 := hP31
      have hD33 : va_D A ([(h0, .inr (6, cQ (kc cA) t0 (aN 0) (aT 0) b0 s0 i0 e0 sd))] ++ (cW aN gN ++ (cW aT g31))) := hD31
      refine lv_if_ne (x := r30) (tgt := 26) hx hb dX6_enduredBy_20 (by decide) (fun (c32 : ¬ (r30 = 0)) => ?_) (fun (c32 : r30 = 0) => ?_)
      · skip
        refine lv_iconst (v := 5) hx hb dX6_enduredBy_26 (by decide) ?_
        refine lv_istore_n (lv' := [(2, .int 5), (0, .ref h0), (1, .int p0)]) hx hb dX6_enduredBy_27 rfl hl (by decide) rfl (fun ls34 hl34 => ?_)
        refine lv_iload_n hx hb dX6_enduredBy_28 rfl (lv_at hl34 0 rfl) ?_
        refine lv_if_le (x := 5) (tgt := 49) hx hb dX6_enduredBy_29 (by decide) (fun (c33 : 5 ≤ 0) => absurd c33 (by decide)) (fun (c33 : ¬ (5 ≤ 0)) => ?_)
        refine lv_aload_n hx hb dX6_enduredBy_32 rfl (lv_at hl34 1 rfl) ?_
        refine lv_iload_n hx hb dX6_enduredBy_33 rfl (lv_at hl34 2 rfl) ?_
        refine lv_iload_n hx hb dX6_enduredBy_34 rfl (lv_at hl34 0 rfl) ?_
        refine k_calli (kRunV (As := [.int p0, .int 5]) (rest := []) kx (c_X6_endures l G cA sd h0 t0 aN aT b0 s0 i0 e0 gN g31 p0 5 hN) q_458 q_455 q_29 q_457 q_4 nX6_endures ⟨Nat.le_of_ble_eq_true rfl, Nat.le_of_ble_eq_true rfl⟩ hK hP32 hD33 (kCtx_all _) 0 6 rfl rfl rfl rfl hl34.1 (Nat.le_of_ble_eq_true rfl) dX6_enduredBy_35 ⟨Nat.zero_le _, Nat.zero_le _⟩) hP32 hD33 hS31 hA (kCtx_all _) (fun _ => rfl) (fun r34 g35 H35 locs35 hw hP35 hD35 hS35 => ?_)
        obtain ⟨hr34, hg35⟩ := hw
        have hr34 : r_X6_endures gN p0 5 = r34 := (show r34 = r_X6_endures gN p0 5 from hr34).symm
        have hg35 : s_X6_endures_gT gN p0 5 = g35 := (show g35 = s_X6_endures_gT gN p0 5 from hg35).symm
        have hP36 : va_P G.1 vwCl ([(h0, .inr (6, cQ (kc cA) t0 (aN 0) (aT 0) b0 s0 i0 e0 sd))] ++ (cW aN gN ++ (cW aT g35))) H35 := hP35
        have hD37 : va_D A ([(h0, .inr (6, cQ (kc cA) t0 (aN 0) (aT 0) b0 s0 i0 e0 sd))] ++ (cW aN gN ++ (cW aT g35))) := hD35
        refine lv_if_eq (x := r34) (tgt := 43) hx hb dX6_enduredBy_38 (by decide) (fun (c36 : r34 = 0) => ?_) (fun (c36 : ¬ (r34 = 0)) => ?_)
        · skip
          refine lv_iinc (v := 4) (lv' := [(2, .int 4), (0, .ref h0), (1, .int p0)]) hx hb dX6_enduredBy_43 hl34 (k := 0) rfl (by decide +kernel) (by decide) rfl (fun ls38 hl38 => ?_)
          refine lv_goto (tgt := 28) hx hb dX6_enduredBy_46 (by decide) ?_
          refine lv_iload_n hx hb dX6_enduredBy_28 rfl (lv_at hl38 0 rfl) ?_
          refine lv_if_le (x := 4) (tgt := 49) hx hb dX6_enduredBy_29 (by decide) (fun (c37 : 4 ≤ 0) => absurd c37 (by decide)) (fun (c37 : ¬ (4 ≤ 0)) => ?_)
          refine lv_aload_n hx hb dX6_enduredBy_32 rfl (lv_at hl38 1 rfl) ?_
          refine lv_iload_n hx hb dX6_enduredBy_33 rfl (lv_at hl38 2 rfl) ?_
          refine lv_iload_n hx hb dX6_enduredBy_34 rfl (lv_at hl38 0 rfl) ?_
          refine k_calli (kRunV (As := [.int p0, .int 4]) (rest := []) kx (c_X6_endures l G cA sd h0 t0 aN aT b0 s0 i0 e0 gN g35 p0 4 hN) q_458 q_455 q_29 q_457 q_4 nX6_endures ⟨Nat.le_of_ble_eq_true rfl, Nat.le_of_ble_eq_true rfl⟩ hK hP36 hD37 (kCtx_all _) 0 6 rfl rfl rfl rfl hl38.1 (Nat.le_of_ble_eq_true rfl) dX6_enduredBy_35 ⟨Nat.zero_le _, Nat.zero_le _⟩) hP36 hD37 hS35 hA (kCtx_all _) (fun _ => rfl) (fun r38 g39 H39 locs39 hw hP39 hD39 hS39 => ?_)
          obtain ⟨hr38, hg39⟩ := hw
          have hr38 : r_X6_endures gN p0 4 = r38 := (show r38 = r_X6_endures gN p0 4 from hr38).symm
          have hg39 : s_X6_endures_gT gN p0 4 = g39 := (show g39 = s_X6_endures_gT gN p0 4 from hg39).symm
          have hP40 : va_P G.1 vwCl ([(h0, .inr (6, cQ (kc cA) t0 (aN 0) (aT 0) b0 s0 i0 e0 sd))] ++ (cW aN gN ++ (cW aT g39))) H39 := hP39
          have hD41 : va_D A ([(h0, .inr (6, cQ (kc cA) t0 (aN 0) (aT 0) b0 s0 i0 e0 sd))] ++ (cW aN gN ++ (cW aT g39))) := hD39
          refine lv_if_eq (x := r38) (tgt := 43) hx hb dX6_enduredBy_38 (by decide) (fun (c40 : r38 = 0) => ?_) (fun (c40 : ¬ (r38 = 0)) => ?_)
          · skip
            refine lv_iinc (v := 3) (lv' := [(2, .int 3), (0, .ref h0), (1, .int p0)]) hx hb dX6_enduredBy_43 hl38 (k := 0) rfl (by decide +kernel) (by decide) rfl (fun ls42 hl42 => ?_)
            refine lv_goto (tgt := 28) hx hb dX6_enduredBy_46 (by decide) ?_
            refine lv_iload_n hx hb dX6_enduredBy_28 rfl (lv_at hl42 0 rfl) ?_
            refine lv_if_le (x := 3) (tgt := 49) hx hb dX6_enduredBy_29 (by decide) (fun (c41 : 3 ≤ 0) => absurd c41 (by decide)) (fun (c41 : ¬ (3 ≤ 0)) => ?_)
            refine lv_aload_n hx hb dX6_enduredBy_32 rfl (lv_at hl42 1 rfl) ?_
            refine lv_iload_n hx hb dX6_enduredBy_33 rfl (lv_at hl42 2 rfl) ?_
            refine lv_iload_n hx hb dX6_enduredBy_34 rfl (lv_at hl42 0 rfl) ?_
            refine k_calli (kRunV (As := [.int p0, .int 3]) (rest := []) kx (c_X6_endures l G cA sd h0 t0 aN aT b0 s0 i0 e0 gN g39 p0 3 hN) q_458 q_455 q_29 q_457 q_4 nX6_endures ⟨Nat.le_of_ble_eq_true rfl, Nat.le_of_ble_eq_true rfl⟩ hK hP40 hD41 (kCtx_all _) 0 6 rfl rfl rfl rfl hl42.1 (Nat.le_of_ble_eq_true rfl) dX6_enduredBy_35 ⟨Nat.zero_le _, Nat.zero_le _⟩) hP40 hD41 hS39 hA (kCtx_all _) (fun _ => rfl) (fun r42 g43 H43 locs43 hw hP43 hD43 hS43 => ?_)
            obtain ⟨hr42, hg43⟩ := hw
            have hr42 : r_X6_endures gN p0 3 = r42 := (show r42 = r_X6_endures gN p0 3 from hr42).symm
            have hg43 : s_X6_endures_gT gN p0 3 = g43 := (show g43 = s_X6_endures_gT gN p0 3 from hg43).symm
            have hP44 : va_P G.1 vwCl ([(h0, .inr (6, cQ (kc cA) t0 (aN 0) (aT 0) b0 s0 i0 e0 sd))] ++ (cW aN gN ++ (cW aT g43))) H43 := hP43
            have hD45 : va_D A ([(h0, .inr (6, cQ (kc cA) t0 (aN 0) (aT 0) b0 s0 i0 e0 sd))] ++ (cW aN gN ++ (cW aT g43))) := hD43
            refine lv_if_eq (x := r42) (tgt := 43) hx hb dX6_enduredBy_38 (by decide) (fun (c44 : r42 = 0) => ?_) (fun (c44 : ¬ (r42 = 0)) => ?_)
            · skip
              refine lv_iinc (v := 2) (lv' := [(2, .int 2), (0, .ref h0), (1, .int p0)]) hx hb dX6_enduredBy_43 hl42 (k := 0) rfl (by decide +kernel) (by decide) rfl (fun ls46 hl46 => ?_)
              refine lv_goto (tgt := 28) hx hb dX6_enduredBy_46 (by decide) ?_
              refine lv_iload_n hx hb dX6_enduredBy_28 rfl (lv_at hl46 0 rfl) ?_
              refine lv_if_le (x := 2) (tgt := 49) hx hb dX6_enduredBy_29 (by decide) (fun (c45 : 2 ≤ 0) => absurd c45 (by decide)) (fun (c45 : ¬ (2 ≤ 0)) => ?_)
              refine lv_aload_n hx hb dX6_enduredBy_32 rfl (lv_at hl46 1 rfl) ?_
              refine lv_iload_n hx hb dX6_enduredBy_33 rfl (lv_at hl46 2 rfl) ?_
              refine lv_iload_n hx hb dX6_enduredBy_34 rfl (lv_at hl46 0 rfl) ?_
              refine k_calli (kRunV (As := [.int p0, .int 2]) (rest := []) kx (c_X6_endures l G cA sd h0 t0 aN aT b0 s0 i0 e0 gN g43 p0 2 hN) q_458 q_455 q_29 q_457 q_4 nX6_endures ⟨Nat.le_of_ble_eq_true rfl, Nat.le_of_ble_eq_true rfl⟩ hK hP44 hD45 (kCtx_all _) 0 6 rfl rfl rfl rfl hl46.1 (Nat.le_of_ble_eq_true rfl) dX6_enduredBy_35 ⟨Nat.zero_le _, Nat.zero_le _⟩) hP44 hD45 hS43 hA (kCtx_all _) (fun _ => rfl) (fun r46 g47 H47 locs47 hw hP47 hD47 hS47 => ?_)
              obtain ⟨hr46, hg47⟩ := hw
              have hr46 : r_X6_endures gN p0 2 = r46 := (show r46 = r_X6_endures gN p0 2 from hr46).symm
              have hg47 : s_X6_endures_gT gN p0 2 = g47 := (show g47 = s_X6_endures_gT gN p0 2 from hg47).symm
              have hP48 : va_P G.1 vwCl ([(h0, .inr (6, cQ (kc cA) t0 (aN 0) (aT 0) b0 s0 i0 e0 sd))] ++ (cW aN gN ++ (cW aT g47))) H47 := hP47
              have hD49 : va_D A ([(h0, .inr (6, cQ (kc cA) t0 (aN 0) (aT 0) b0 s0 i0 e0 sd))] ++ (cW aN gN ++ (cW aT g47))) := hD47
              refine lv_if_eq (x := r46) (tgt := 43) hx hb dX6_enduredBy_38 (by decide) (fun (c48 : r46 = 0) => ?_) (fun (c48 : ¬ (r46 = 0)) => ?_)
              · skip
                refine lv_iinc (v := 1) (lv' := [(2, .int 1), (0, .ref h0), (1, .int p0)]) hx hb dX6_enduredBy_43 hl46 (k := 0) rfl (by decide +kernel) (by decide) rfl (fun ls50 hl50 => ?_)
                refine lv_goto (tgt := 28) hx hb dX6_enduredBy_46 (by decide) ?_
                refine lv_iload_n hx hb dX6_enduredBy_28 rfl (lv_at hl50 0 rfl) ?_
                refine lv_if_le (x := 1) (tgt := 49) hx hb dX6_enduredBy_29 (by decide) (fun (c49 : 1 ≤ 0) => absurd c49 (by decide)) (fun (c49 : ¬ (1 ≤ 0)) => ?_)
                refine lv_aload_n hx hb dX6_enduredBy_32 rfl (lv_at hl50 1 rfl) ?_
                refine lv_iload_n hx hb dX6_enduredBy_33 rfl (lv_at hl50 2 rfl) ?_
                refine lv_iload_n hx hb dX6_enduredBy_34 rfl (lv_at hl50 0 rfl) ?_
                refine k_calli (kRunV (As := [.int p0, .int 1]) (rest := []) kx (c_X6_endures l G cA sd h0 t0 aN aT b0 s0 i0 e0 gN g47 p0 1 hN) q_458 q_455 q_29 q_457 q_4 nX6_endures ⟨Nat.le_of_ble_eq_true rfl, Nat.le_of_ble_eq_true rfl⟩ hK hP48 hD49 (kCtx_all _) 0 6 rfl rfl rfl rfl hl50.1 (Nat.le_of_ble_eq_true rfl) dX6_enduredBy_35 ⟨Nat.zero_le _, Nat.zero_le _⟩) hP48 hD49 hS47 hA (kCtx_all _) (fun _ => rfl) (fun r50 g51 H51 locs51 hw hP51 hD51 hS51 => ?_)
                obtain ⟨hr50, hg51⟩ := hw
                have hr50 : r_X6_endures gN p0 1 = r50 := (show r50 = r_X6_endures gN p0 1 from hr50).symm
                have hg51 : s_X6_endures_gT gN p0 1 = g51 := (show g51 = s_X6_endures_gT gN p0 1 from hg51).symm
                have hP52 : va_P G.1 vwCl ([(h0, .inr (6, cQ (kc cA) t0 (aN 0) (aT 0) b0 s0 i0 e0 sd))] ++ (cW aN gN ++ (cW aT g51))) H51 := hP51
                have hD53 : va_D A ([(h0, .inr (6, cQ (kc cA) t0 (aN 0) (aT 0) b0 s0 i0 e0 sd))] ++ (cW aN gN ++ (cW aT g51))) := hD51
                refine lv_if_eq (x := r50) (tgt := 43) hx hb dX6_enduredBy_38 (by decide) (fun (c52 : r50 = 0) => ?_) (fun (c52 : ¬ (r50 = 0)) => ?_)
                · skip
                  refine lv_iinc (v := 0) (lv' := [(2, .int 0), (0, .ref h0), (1, .int p0)]) hx hb dX6_enduredBy_43 hl50 (k := 0) rfl (by decide +kernel) (by decide) rfl (fun ls54 hl54 => ?_)
                  refine lv_goto (tgt := 28) hx hb dX6_enduredBy_46 (by decide) ?_
                  refine lv_iload_n hx hb dX6_enduredBy_28 rfl (lv_at hl54 0 rfl) ?_
                  refine lv_if_le (x := 0) (tgt := 49) hx hb dX6_enduredBy_29 (by decide) (fun (c53 : 0 ≤ 0) => ?_) (fun (c53 : ¬ (0 ≤ 0)) => absurd (by decide) c53)
                  refine lv_iconst (v := 0) hx hb dX6_enduredBy_49 (by decide) ?_
                  have er : r_X6_enduredBy gN p0 = 0 := by rw [r_X6_enduredBy]; (try rw [hg31]); (try rw [hr30]); (try rw [hg35]); (try rw [hr34]); (try rw [hg39]); (try rw [hr38]); (try rw [hg43]); (try rw [hr42]); (try rw [hg47]); (try rw [hr46]); (try rw [hg51]); (try rw [hr50]); rw [if_neg c1, if_neg c29, if_neg c32, if_pos c36, if_pos c40, if_pos c44, if_pos c48, if_pos c52]
                  have e0 : s_X6_enduredBy_gT gN gT p0 = g51 := by rw [s_X6_enduredBy_gT]; (try rw [hg31]); (try rw [hr30]); (try rw [hg35]); (try rw [hr34]); (try rw [hg39]); (try rw [hr38]); (try rw [hg43]); (try rw [hr42]); (try rw [hg47]); (try rw [hr46]); (try rw [hg51]); (try rw [hr50]); rw [if_neg c1, if_neg c29, if_neg c32, if_pos c36, if_pos c40, if_pos c44, if_pos c48, if_pos c52]
                  exact k_iret kx hK hP52 hD53 hS51 (u := g51) rfl ⟨er.symm, e0.symm⟩ dX6_enduredBy_50
                · skip
                  refine lv_iload_n hx hb dX6_enduredBy_41 rfl (lv_at hl50 0 rfl) ?_
                  have er : r_X6_enduredBy gN p0 = 1 := by rw [r_X6_enduredBy]; (try rw [hg31]); (try rw [hr30]); (try rw [hg35]); (try rw [hr34]); (try rw [hg39]); (try rw [hr38]); (try rw [hg43]); (try rw [hr42]); (try rw [hg47]); (try rw [hr46]); (try rw [hg51]); (try rw [hr50]); rw [if_neg c1, if_neg c29, if_neg c32, if_pos c36, if_pos c40, if_pos c44, if_pos c48, if_neg c52]
                  have e0 : s_X6_enduredBy_gT gN gT p0 = g51 := by rw [s_X6_enduredBy_gT]; (try rw [hg31]); (try rw [hr30]); (try rw [hg35]); (try rw [hr34]); (try rw [hg39]); (try rw [hr38]); (try rw [hg43]); (try rw [hr42]); (try rw [hg47]); (try rw [hr46]); (try rw [hg51]); (try rw [hr50]); rw [if_neg c1, if_neg c29, if_neg c32, if_pos c36, if_pos c40, if_pos c44, if_pos c48, if_neg c52]
                  exact k_iret kx hK hP52 hD53 hS51 (u := g51) rfl ⟨er.symm, e0.symm⟩ dX6_enduredBy_42
              · skip
                refine lv_iload_n hx hb dX6_enduredBy_41 rfl (lv_at hl46 0 rfl) ?_
                have er : r_X6_enduredBy gN p0 = 2 := by rw [r_X6_enduredBy]; (try rw [hg31]); (try rw [hr30]); (try rw [hg35]); (try rw [hr34]); (try rw [hg39]); (try rw [hr38]); (try rw [hg43]); (try rw [hr42]); (try rw [hg47]); (try rw [hr46]); rw [if_neg c1, if_neg c29, if_neg c32, if_pos c36, if_pos c40, if_pos c44, if_neg c48]
                have e0 : s_X6_enduredBy_gT gN gT p0 = g47 := by rw [s_X6_enduredBy_gT]; (try rw [hg31]); (try rw [hr30]); (try rw [hg35]); (try rw [hr34]); (try rw [hg39]); (try rw [hr38]); (try rw [hg43]); (try rw [hr42]); (try rw [hg47]); (try rw [hr46]); rw [if_neg c1, if_neg c29, if_neg c32, if_pos c36, if_pos c40, if_pos c44, if_neg c48]
                exact k_iret kx hK hP48 hD49 hS47 (u := g47) rfl ⟨er.symm, e0.symm⟩ dX6_enduredBy_42
            · skip
              refine lv_iload_n hx hb dX6_enduredBy_41 rfl (lv_at hl42 0 rfl) ?_
              have er : r_X6_enduredBy gN p0 = 3 := by rw [r_X6_enduredBy]; (try rw [hg31]); (try rw [hr30]); (try rw [hg35]); (try rw [hr34]); (try rw [hg39]); (try rw [hr38]); (try rw [hg43]); (try rw [hr42]); rw [if_neg c1, if_neg c29, if_neg c32, if_pos c36, if_pos c40, if_neg c44]
              have e0 : s_X6_enduredBy_gT gN gT p0 = g43 := by rw [s_X6_enduredBy_gT]; (try rw [hg31]); (try rw [hr30]); (try rw [hg35]); (try rw [hr34]); (try rw [hg39]); (try rw [hr38]); (try rw [hg43]); (try rw [hr42]); rw [if_neg c1, if_neg c29, if_neg c32, if_pos c36, if_pos c40, if_neg c44]
              exact k_iret kx hK hP44 hD45 hS43 (u := g43) rfl ⟨er.symm, e0.symm⟩ dX6_enduredBy_42
          · skip
            refine lv_iload_n hx hb dX6_enduredBy_41 rfl (lv_at hl38 0 rfl) ?_
            have er : r_X6_enduredBy gN p0 = 4 := by rw [r_X6_enduredBy]; (try rw [hg31]); (try rw [hr30]); (try rw [hg35]); (try rw [hr34]); (try rw [hg39]); (try rw [hr38]); rw [if_neg c1, if_neg c29, if_neg c32, if_pos c36, if_neg c40]
            have e0 : s_X6_enduredBy_gT gN gT p0 = g39 := by rw [s_X6_enduredBy_gT]; (try rw [hg31]); (try rw [hr30]); (try rw [hg35]); (try rw [hr34]); (try rw [hg39]); (try rw [hr38]); rw [if_neg c1, if_neg c29, if_neg c32, if_pos c36, if_neg c40]
            exact k_iret kx hK hP40 hD41 hS39 (u := g39) rfl ⟨er.symm, e0.symm⟩ dX6_enduredBy_42
        · skip
          refine lv_iload_n hx hb dX6_enduredBy_41 rfl (lv_at hl34 0 rfl) ?_
          have er : r_X6_enduredBy gN p0 = 5 := by rw [r_X6_enduredBy]; (try rw [hg31]); (try rw [hr30]); (try rw [hg35]); (try rw [hr34]); rw [if_neg c1, if_neg c29, if_neg c32, if_neg c36]
          have e0 : s_X6_enduredBy_gT gN gT p0 = g35 := by rw [s_X6_enduredBy_gT]; (try rw [hg31]); (try rw [hr30]); (try rw [hg35]); (try rw [hr34]); rw [if_neg c1, if_neg c29, if_neg c32, if_neg c36]
          exact k_iret kx hK hP36 hD37 hS35 (u := g35) rfl ⟨er.symm, e0.symm⟩ dX6_enduredBy_42
      · skip
        refine lv_bipush (v := (-9)) hx hb dX6_enduredBy_23 (by decide) ?_
        have er : r_X6_enduredBy gN p0 = (-9) := by rw [r_X6_enduredBy]; (try rw [hg31]); (try rw [hr30]); rw [if_neg c1, if_neg c29, if_pos c32]
        have e0 : s_X6_enduredBy_gT gN gT p0 = g31 := by rw [s_X6_enduredBy_gT]; (try rw [hg31]); (try rw [hr30]); rw [if_neg c1, if_neg c29, if_pos c32]
        exact k_iret kx hK hP32 hD33 hS31 (u := g31) rfl ⟨er.symm, e0.symm⟩ dX6_enduredBy_25

def r_X6_end (gN : Nat → Nat → Int32) (p0 : Int32) (p1 : Int32) : Int32 := if (r_X6_isZeroOrOne p0) = 0 then (-1) else if p1 < 0 then (-2) else if p1 ≤ 13 then (if p1 = 12 then (r_X6_noticedBy gN p0) else if p1 = 13 then (r_X6_enduredBy gN p0) else if p0 = 0 then (r_X0_numberOf (gN 0) p1) else r_X0_numberOf (gN 1) p1) else (-2)
def s_X6_end_gT (gN : Nat → Nat → Int32) (gT : Nat → Nat → Int32) (p0 : Int32) (p1 : Int32) : Nat → Nat → Int32 := if (r_X6_isZeroOrOne p0) = 0 then gT else if p1 < 0 then gT else if p1 ≤ 13 then (if p1 = 12 then (s_X6_noticedBy_gT gN p0) else if p1 = 13 then (s_X6_enduredBy_gT gN gT p0) else if p0 = 0 then gT else gT) else gT
set_option maxHeartbeats 4000000 in
set_option maxRecDepth 100000 in
theorem c_X6_end (l : Launch) (G : kG) (cA : Int32) (sd : Int64) (h0 : Nat) (t0 : Nat) (aN : Nat → Nat) (aT : Nat → Nat) (b0 : Nat) (s0 : Nat) (i0 : Nat) (e0 : Nat) (gN : Nat → Nat → Int32) (gT : Nat → Nat → Int32) (p0 : Int32) (p1 : Int32) (hN : bW gN) : cG l G yX6_end cX6_end 3 (some .int) 6 [.ref h0, .int p0, .int p1] ([(h0, .inr (6, cQ (kc cA) t0 (aN 0) (aT 0) b0 s0 i0 e0 sd))] ++ (cW aN gN ++ (cW aT gT))) (qI G (fun (r : Int32) (u : (Nat → Nat → Int32)) => r = r_X6_end gN p0 p1 ∧ u = s_X6_end_gT gN gT p0 p1) (fun u => [(h0, .inr (6, cQ (kc cA) t0 (aN 0) (aT 0) b0 s0 i0 e0 sd))] ++ (cW aN gN ++ (cW aT u)))) := by
  refine kintro (by decide) (Nat.le_of_ble_eq_true rfl) ?_
  intro p e s m args below meth c A ls kx hK hP hD hS hA hl
  have kx : kX p s m args meth c cX6_end 3 (some .int) RX6 := kx
  have hx := kx.1
  have hb := kx.2.1
  have hown := kx.2.2.2.2.1
  have ht := kx.2.2.2.2.2.2
  have hl : lv_has ls 3 [(0, .ref h0), (1, .int p0), (2, .int p1)] := hl
  refine lv_iload_n hx hb dX6_end_0 rfl (lv_at hl 1 rfl) ?_
  refine k_calli (kRunS (As := [.int p0]) (rest := []) kx (c_X6_isZeroOrOne l G p0) q_431 q_429 q_29 q_430 nX6_isZeroOrOne ⟨Nat.le_of_ble_eq_true rfl, Nat.le_of_ble_eq_true rfl⟩ hK hP hD (kCtx_nil _) rfl hl.1 (Nat.le_of_ble_eq_true rfl) dX6_end_1 ⟨Nat.zero_le _, Nat.zero_le _⟩) hP hD hS hA (kCtx_nil _) (fun _ => rfl) (fun r1 _ H1 locs1 hw hP1 hD1 hS1 => ?_)
  have hr1 : r_X6_isZeroOrOne p0 = r1 := (show r1 = r_X6_isZeroOrOne p0 from hw).symm
  have hP2 : va_P G.1 vwCl ([(h0, .inr (6, cQ (kc cA) t0 (aN 0) (aT 0) b0 s0 i0 e0 sd))] ++ (cW aN gN ++ (cW aT gT))) H1 := hP1
  have hD3 : va_D A ([(h0, .inr (6, cQ (kc cA) t0 (aN 0) (aT 0) b0 s0 i0 e0 sd))] ++ (cW aN gN ++ (cW aT gT))) := hD1
  refine lv_if_ne (x := r1) (tgt := 9) hx hb dX6_end_4 (by decide) (fun (c2 : ¬ (r1 = 0)) => ?_) (fun (c2 : r1 = 0) => ?_)
  · skip
    refine lv_iload_n hx hb dX6_end_9 rfl (lv_at hl 2 rfl) ?_
    refine lv_if_lt (x := p1) (tgt := 19) hx hb dX6_end_10 (by decide) (fun (c3 : p1 < 0) => ?_) (fun (c3 : ¬ (p1 < 0)) => ?_)
    · skip
      refine lv_bipush (v := (-2)) hx hb dX6_end_19 (by decide) ?_
      have er : r_X6_end gN p0 p1 = (-2) := by rw [r_X6_end]; (try rw [hr1]); rw [if_neg c2, if_pos c3]
      have e0 : s_X6_end_gT gN gT p0 p1 = gT := by rw [s_X6_end_gT]; (try rw [hr1]); rw [if_neg c2, if_pos c3]
      exact k_iret kx hK hP2 hD3 hS1 (u := gT) rfl ⟨er.symm, e0.symm⟩ dX6_end_21
    · skip
      refine lv_iload_n hx hb dX6_end_13 rfl (lv_at hl 2 rfl) ?_
      refine lv_bipush (v := 13) hx hb dX6_end_14 (by decide) ?_
      refine lv_icmp_le (x := p1) (y := 13) (tgt := 22) hx hb dX6_end_16 (by decide) (fun (c4 : p1 ≤ 13) => ?_) (fun (c4 : ¬ (p1 ≤ 13)) => ?_)
      · skip
        refine lv_iload_n hx hb dX6_end_22 rfl (lv_at hl 2 rfl) ?_
        refine lv_bipush (v := 12) hx hb dX6_end_23 (by decide) ?_
        refine lv_icmp_ne (x := p1) (y := 12) (tgt := 34) hx hb dX6_end_25 (by decide) (fun (c5 : ¬ (p1 = 12)) => ?_) (fun (c5 : p1 = 12) => ?_)
        · skip
          refine lv_iload_n hx hb dX6_end_34 rfl (lv_at hl 2 rfl) ?_
          refine lv_bipush (v := 13) hx hb dX6_end_35 (by decide) ?_
          refine lv_icmp_ne (x := p1) (y := 13) (tgt := 46) hx hb dX6_end_37 (by decide) (fun (c6 : ¬ (p1 = 13)) => ?_) (fun (c6 : p1 = 13) => ?_)
          · skip
            refine lv_aload_n hx hb dX6_end_46 rfl (lv_at hl 0 rfl) ?_
            refine va_get (ci := 6) (v := .ref (aN 0)) (C := RX6) (T := TX6) (N := 9) hx hb ht inX6 hown hK.1 hP2 0 rfl rfl 1 (by decide) (ht _ q_264) (fun _ h9 => h9) rfl dX6_end_47 ?_
            refine lv_iload_n hx hb dX6_end_50 rfl (lv_at hl 1 rfl) ?_
            by_cases c7 : p0 = 0
            · skip
              refine k_top (y := 0) c7 ?_
              refine k_callr (kRunV (As := [.int 0]) (rest := []) kx (c_X5_endOf_0 l G (gN 4) (aN 0) (aN 1) (aN 3) (aN 5) (aN 7)) q_329 q_449 q_31 q_327 q_328 nX5_endOf ⟨Nat.le_of_ble_eq_true rfl, Nat.le_of_ble_eq_true rfl⟩ hK hP2 hD3 (kCtx_places _ _ [1] rfl rfl) 0 5 rfl rfl rfl rfl hl.1 (Nat.le_of_ble_eq_true rfl) dX6_end_51 ⟨Nat.zero_le _, Nat.zero_le _⟩) hP2 hD3 hS1 hA (kCtx_places _ _ [1] rfl rfl) (fun _ => rfl) (fun r8 _ H4 locs4 hw hP4 hD4 hS4 => ?_)
              have hr8 : aN 1 = r8 := (show r8 = aN 1 from hw).symm
              subst hr8
              have hP5 : va_P G.1 vwCl ([(h0, .inr (6, cQ (kc cA) t0 (aN 0) (aT 0) b0 s0 i0 e0 sd))] ++ (cW aN gN ++ (cW aT gT))) H4 := hP4
              have hD6 : va_D A ([(h0, .inr (6, cQ (kc cA) t0 (aN 0) (aT 0) b0 s0 i0 e0 sd))] ++ (cW aN gN ++ (cW aT gT))) := hD4
              refine lv_iload_n hx hb dX6_end_54 rfl (lv_at hl 2 rfl) ?_
              refine k_calli (kRunV (As := [.int p1]) (rest := []) kx (c_X0_numberOf l G (gN 0) (aN 1) (aN 2) p1) q_466 q_463 q_32 q_464 q_465 nX0_numberOf ⟨Nat.le_of_ble_eq_true rfl, Nat.le_of_ble_eq_true rfl⟩ hK hP5 hD6 (kCtx_places _ _ [2, 3] rfl rfl) 0 0 rfl rfl rfl rfl hl.1 (Nat.le_of_ble_eq_true rfl) dX6_end_55 ⟨Nat.zero_le _, Nat.zero_le _⟩) hP5 hD6 hS4 hA (kCtx_places _ _ [2, 3] rfl rfl) (fun _ => rfl) (fun r9 _ H7 locs7 hw hP7 hD7 hS7 => ?_)
              have hr9 : r_X0_numberOf (gN 0) p1 = r9 := (show r9 = r_X0_numberOf (gN 0) p1 from hw).symm
              have hP8 : va_P G.1 vwCl ([(h0, .inr (6, cQ (kc cA) t0 (aN 0) (aT 0) b0 s0 i0 e0 sd))] ++ (cW aN gN ++ (cW aT gT))) H7 := hP7
              have hD9 : va_D A ([(h0, .inr (6, cQ (kc cA) t0 (aN 0) (aT 0) b0 s0 i0 e0 sd))] ++ (cW aN gN ++ (cW aT gT))) := hD7
              have er : r_X6_end gN p0 p1 = r9 := by rw [r_X6_end]; (try rw [hr1]); (try rw [hr9]); rw [if_neg c2, if_neg c3, if_pos c4, if_neg c5, if_neg c6, if_pos c7]
              have e0 : s_X6_end_gT gN gT p0 p1 = gT := by rw [s_X6_end_gT]; (try rw [hr1]); (try rw [hr9]); rw [if_neg c2, if_neg c3, if_pos c4, if_neg c5, if_neg c6, if_pos c7]
              exact k_iret kx hK hP8 hD9 hS7 (u := gT) rfl ⟨er.symm, e0.symm⟩ dX6_end_58
            · skip
              refine k_callr (kRunV (As := [.int p0]) (rest := []) kx (c_X5_endOf_n l G (gN 4) (aN 0) (aN 1) (aN 3) (aN 5) (aN 7) p0 c7) q_329 q_449 q_31 q_327 q_328 nX5_endOf ⟨Nat.le_of_ble_eq_true rfl, Nat.le_of_ble_eq_true rfl⟩ hK hP2 hD3 (kCtx_places _ _ [1] rfl rfl) 0 5 rfl rfl rfl rfl hl.1 (Nat.le_of_ble_eq_true rfl) dX6_end_51 ⟨Nat.zero_le _, Nat.zero_le _⟩) hP2 hD3 hS1 hA (kCtx_places _ _ [1] rfl rfl) (fun _ => rfl) (fun r10 _ H10 locs10 hw hP10 hD10 hS10 => ?_)
              have hr10 : aN 3 = r10 := (show r10 = aN 3 from hw).symm
              subst hr10
              have hP11 : va_P G.1 vwCl ([(h0, .inr (6, cQ (kc cA) t0 (aN 0) (aT 0) b0 s0 i0 e0 sd))] ++ (cW aN gN ++ (cW aT gT))) H10 := hP10
              have hD12 : va_D A ([(h0, .inr (6, cQ (kc cA) t0 (aN 0) (aT 0) b0 s0 i0 e0 sd))] ++ (cW aN gN ++ (cW aT gT))) := hD10
              refine lv_iload_n hx hb dX6_end_54 rfl (lv_at hl 2 rfl) ?_
              refine k_calli (kRunV (As := [.int p1]) (rest := []) kx (c_X0_numberOf l G (gN 1) (aN 3) (aN 4) p1) q_466 q_463 q_32 q_464 q_465 nX0_numberOf ⟨Nat.le_of_ble_eq_true rfl, Nat.le_of_ble_eq_true rfl⟩ hK hP11 hD12 (kCtx_places _ _ [4, 5] rfl rfl) 0 0 rfl rfl rfl rfl hl.1 (Nat.le_of_ble_eq_true rfl) dX6_end_55 ⟨Nat.zero_le _, Nat.zero_le _⟩) hP11 hD12 hS10 hA (kCtx_places _ _ [4, 5] rfl rfl) (fun _ => rfl) (fun r11 _ H13 locs13 hw hP13 hD13 hS13 => ?_)
              have hr11 : r_X0_numberOf (gN 1) p1 = r11 := (show r11 = r_X0_numberOf (gN 1) p1 from hw).symm
              have hP14 : va_P G.1 vwCl ([(h0, .inr (6, cQ (kc cA) t0 (aN 0) (aT 0) b0 s0 i0 e0 sd))] ++ (cW aN gN ++ (cW aT gT))) H13 := hP13
              have hD15 : va_D A ([(h0, .inr (6, cQ (kc cA) t0 (aN 0) (aT 0) b0 s0 i0 e0 sd))] ++ (cW aN gN ++ (cW aT gT))) := hD13
              have er : r_X6_end gN p0 p1 = r11 := by rw [r_X6_end]; (try rw [hr1]); (try rw [hr11]); rw [if_neg c2, if_neg c3, if_pos c4, if_neg c5, if_neg c6, if_neg c7]
              have e0 : s_X6_end_gT gN gT p0 p1 = gT := by rw [s_X6_end_gT]; (try rw [hr1]); (try rw [hr11]); rw [if_neg c2, if_neg c3, if_pos c4, if_neg c5, if_neg c6, if_neg c7]
              exact k_iret kx hK hP14 hD15 hS13 (u := gT) rfl ⟨er.symm, e0.symm⟩ dX6_end_58
          · skip
            refine lv_aload_n hx hb dX6_end_40 rfl (lv_at hl 0 rfl) ?_
            refine lv_iload_n hx hb dX6_end_41 rfl (lv_at hl 1 rfl) ?_
            refine k_calli (kRunV (As := [.int p0]) (rest := []) kx (c_X6_enduredBy l G cA sd h0 t0 aN aT b0 s0 i0 e0 gN gT p0 hN) q_454 q_451 q_29 q_453 q_3 nX6_enduredBy ⟨Nat.le_of_ble_eq_true rfl, Nat.le_of_ble_eq_true rfl⟩ hK hP2 hD3 (kCtx_all _) 0 6 rfl rfl rfl rfl hl.1 (Nat.le_of_ble_eq_true rfl) dX6_end_42 ⟨Nat.zero_le _, Nat.zero_le _⟩) hP2 hD3 hS1 hA (kCtx_all _) (fun _ => rfl) (fun r12 g13 H16 locs16 hw hP16 hD16 hS16 => ?_)
            obtain ⟨hr12, hg13⟩ := hw
            have hr12 : r_X6_enduredBy gN p0 = r12 := (show r12 = r_X6_enduredBy gN p0 from hr12).symm
            have hg13 : s_X6_enduredBy_gT gN gT p0 = g13 := (show g13 = s_X6_enduredBy_gT gN gT p0 from hg13).symm
            have hP17 : va_P G.1 vwCl ([(h0, .inr (6, cQ (kc cA) t0 (aN 0) (aT 0) b0 s0 i0 e0 sd))] ++ (cW aN gN ++ (cW aT g13))) H16 := hP16
            have hD18 : va_D A ([(h0, .inr (6, cQ (kc cA) t0 (aN 0) (aT 0) b0 s0 i0 e0 sd))] ++ (cW aN gN ++ (cW aT g13))) := hD16
            have er : r_X6_end gN p0 p1 = r12 := by rw [r_X6_end]; (try rw [hr1]); (try rw [hg13]); (try rw [hr12]); rw [if_neg c2, if_neg c3, if_pos c4, if_neg c5, if_pos c6]
            have e0 : s_X6_end_gT gN gT p0 p1 = g13 := by rw [s_X6_end_gT]; (try rw [hr1]); (try rw [hg13]); (try rw [hr12]); rw [if_neg c2, if_neg c3, if_pos c4, if_neg c5, if_pos c6]
            exact k_iret kx hK hP17 hD18 hS16 (u := g13) rfl ⟨er.symm, e0.symm⟩ dX6_end_45
        · skip
          refine lv_aload_n hx hb dX6_end_28 rfl (lv_at hl 0 rfl) ?_
          refine lv_iload_n hx hb dX6_end_29 rfl (lv_at hl 1 rfl) ?_
          refine k_calli (kRunV (As := [.int p0]) (rest := []) kx (c_X6_noticedBy l G cA sd h0 t0 aN aT b0 s0 i0 e0 gN gT p0 hN) q_435 q_432 q_29 q_434 q_2 nX6_noticedBy ⟨Nat.le_of_ble_eq_true rfl, Nat.le_of_ble_eq_true rfl⟩ hK hP2 hD3 (kCtx_all _) 0 6 rfl rfl rfl rfl hl.1 (Nat.le_of_ble_eq_true rfl) dX6_end_30 ⟨Nat.zero_le _, Nat.zero_le _⟩) hP2 hD3 hS1 hA (kCtx_all _) (fun _ => rfl) (fun r14 g15 H19 locs19 hw hP19 hD19 hS19 => ?_)
          obtain ⟨hr14, hg15⟩ := hw
          have hr14 : r_X6_noticedBy gN p0 = r14 := (show r14 = r_X6_noticedBy gN p0 from hr14).symm
          have hg15 : s_X6_noticedBy_gT gN p0 = g15 := (show g15 = s_X6_noticedBy_gT gN p0 from hg15).symm
          have hP20 : va_P G.1 vwCl ([(h0, .inr (6, cQ (kc cA) t0 (aN 0) (aT 0) b0 s0 i0 e0 sd))] ++ (cW aN gN ++ (cW aT g15))) H19 := hP19
          have hD21 : va_D A ([(h0, .inr (6, cQ (kc cA) t0 (aN 0) (aT 0) b0 s0 i0 e0 sd))] ++ (cW aN gN ++ (cW aT g15))) := hD19
          have er : r_X6_end gN p0 p1 = r14 := by rw [r_X6_end]; (try rw [hr1]); (try rw [hg15]); (try rw [hr14]); rw [if_neg c2, if_neg c3, if_pos c4, if_pos c5]
          have e0 : s_X6_end_gT gN gT p0 p1 = g15 := by rw [s_X6_end_gT]; (try rw [hr1]); (try rw [hg15]); (try rw [hr14]); rw [if_neg c2, if_neg c3, if_pos c4, if_pos c5]
          exact k_iret kx hK hP20 hD21 hS19 (u := g15) rfl ⟨er.symm, e0.symm⟩ dX6_end_33
      · skip
        refine lv_bipush (v := (-2)) hx hb dX6_end_19 (by decide) ?_
        have er : r_X6_end gN p0 p1 = (-2) := by rw [r_X6_end]; (try rw [hr1]); rw [if_neg c2, if_neg c3, if_neg c4]
        have e0 : s_X6_end_gT gN gT p0 p1 = gT := by rw [s_X6_end_gT]; (try rw [hr1]); rw [if_neg c2, if_neg c3, if_neg c4]
        exact k_iret kx hK hP2 hD3 hS1 (u := gT) rfl ⟨er.symm, e0.symm⟩ dX6_end_21
  · skip
    refine lv_iconst (v := (-1)) hx hb dX6_end_7 (by decide) ?_
    have er : r_X6_end gN p0 p1 = (-1) := by rw [r_X6_end]; (try rw [hr1]); rw [if_pos c2]
    have e0 : s_X6_end_gT gN gT p0 p1 = gT := by rw [s_X6_end_gT]; (try rw [hr1]); rw [if_pos c2]
    exact k_iret kx hK hP2 hD3 hS1 (u := gT) rfl ⟨er.symm, e0.symm⟩ dX6_end_8

def r_X6_ahead (gN : Nat → Nat → Int32) (p0 : Int32) (p1 : Int32) : Int32 := if p0 < 0 then (-2) else if 99 < p0 then (-2) else if p1 < 0 then (-2) else if p1 ≤ 3 then (if p1 = 0 then ((s_X5_run_g gN p0) 0 5) else if p1 = 1 then ((s_X5_run_g gN p0) 1 5) else if p1 = 2 then ((s_X5_run_g gN p0) 4 1) else (s_X5_run_g gN p0) 4 2) else (-2)
def s_X6_ahead_gT (gN : Nat → Nat → Int32) (gT : Nat → Nat → Int32) (p0 : Int32) (p1 : Int32) : Nat → Nat → Int32 := if p0 < 0 then gT else if 99 < p0 then gT else if p1 < 0 then gT else if p1 ≤ 3 then (if p1 = 0 then (s_X5_run_g gN p0) else if p1 = 1 then (s_X5_run_g gN p0) else if p1 = 2 then (s_X5_run_g gN p0) else s_X5_run_g gN p0) else gT
set_option maxHeartbeats 4000000 in
set_option maxRecDepth 100000 in
theorem c_X6_ahead (l : Launch) (G : kG) (cA : Int32) (sd : Int64) (h0 : Nat) (t0 : Nat) (aN : Nat → Nat) (aT : Nat → Nat) (b0 : Nat) (s0 : Nat) (i0 : Nat) (e0 : Nat) (gN : Nat → Nat → Int32) (gT : Nat → Nat → Int32) (p0 : Int32) (p1 : Int32) (hN : bW gN) : cG l G yX6_ahead cX6_ahead 3 (some .int) 5 [.ref h0, .int p0, .int p1] ([(h0, .inr (6, cQ (kc cA) t0 (aN 0) (aT 0) b0 s0 i0 e0 sd))] ++ (cW aN gN ++ (cW aT gT))) (qI G (fun (r : Int32) (u : (Nat → Nat → Int32)) => r = r_X6_ahead gN p0 p1 ∧ u = s_X6_ahead_gT gN gT p0 p1) (fun u => [(h0, .inr (6, cQ (kc cA) t0 (aN 0) (aT 0) b0 s0 i0 e0 sd))] ++ (cW aN gN ++ (cW aT u)))) := by
  refine kintro (by decide) (Nat.le_of_ble_eq_true rfl) ?_
  intro p e s m args below meth c A ls kx hK hP hD hS hA hl
  have kx : kX p s m args meth c cX6_ahead 3 (some .int) RX6 := kx
  have hx := kx.1
  have hb := kx.2.1
  have hown := kx.2.2.2.2.1
  have ht := kx.2.2.2.2.2.2
  have hl : lv_has ls 3 [(0, .ref h0), (1, .int p0), (2, .int p1)] := hl
  refine lv_iload_n hx hb dX6_ahead_0 rfl (lv_at hl 1 rfl) ?_
  refine lv_if_lt (x := p0) (tgt := 19) hx hb dX6_ahead_1 (by decide) (fun (c1 : p0 < 0) => ?_) (fun (c1 : ¬ (p0 < 0)) => ?_)
  · skip
    refine lv_bipush (v := (-2)) hx hb dX6_ahead_19 (by decide) ?_
    have er : r_X6_ahead gN p0 p1 = (-2) := by rw [r_X6_ahead, if_pos c1]
    have e0 : s_X6_ahead_gT gN gT p0 p1 = gT := by rw [s_X6_ahead_gT, if_pos c1]
    exact k_iret kx hK hP hD hS (u := gT) rfl ⟨er.symm, e0.symm⟩ dX6_ahead_21
  · skip
    refine lv_iload_n hx hb dX6_ahead_4 rfl (lv_at hl 1 rfl) ?_
    refine lv_bipush (v := 99) hx hb dX6_ahead_5 (by decide) ?_
    refine lv_icmp_gt (x := p0) (y := 99) (tgt := 19) hx hb dX6_ahead_7 (by decide) (fun (c2 : 99 < p0) => ?_) (fun (c2 : ¬ (99 < p0)) => ?_)
    · skip
      refine lv_bipush (v := (-2)) hx hb dX6_ahead_19 (by decide) ?_
      have er : r_X6_ahead gN p0 p1 = (-2) := by rw [r_X6_ahead, if_neg c1, if_pos c2]
      have e0 : s_X6_ahead_gT gN gT p0 p1 = gT := by rw [s_X6_ahead_gT, if_neg c1, if_pos c2]
      exact k_iret kx hK hP hD hS (u := gT) rfl ⟨er.symm, e0.symm⟩ dX6_ahead_21
    · skip
      refine lv_iload_n hx hb dX6_ahead_10 rfl (lv_at hl 2 rfl) ?_
      refine lv_if_lt (x := p1) (tgt := 19) hx hb dX6_ahead_11 (by decide) (fun (c3 : p1 < 0) => ?_) (fun (c3 : ¬ (p1 < 0)) => ?_)
      · skip
        refine lv_bipush (v := (-2)) hx hb dX6_ahead_19 (by decide) ?_
        have er : r_X6_ahead gN p0 p1 = (-2) := by rw [r_X6_ahead, if_neg c1, if_neg c2, if_pos c3]
        have e0 : s_X6_ahead_gT gN gT p0 p1 = gT := by rw [s_X6_ahead_gT, if_neg c1, if_neg c2, if_pos c3]
        exact k_iret kx hK hP hD hS (u := gT) rfl ⟨er.symm, e0.symm⟩ dX6_ahead_21
      · skip
        refine lv_iload_n hx hb dX6_ahead_14 rfl (lv_at hl 2 rfl) ?_
        refine lv_iconst (v := 3) hx hb dX6_ahead_15 (by decide) ?_
        refine lv_icmp_le (x := p1) (y := 3) (tgt := 22) hx hb dX6_ahead_16 (by decide) (fun (c4 : p1 ≤ 3) => ?_) (fun (c4 : ¬ (p1 ≤ 3)) => ?_)
        · skip
          refine lv_aload_n hx hb dX6_ahead_22 rfl (lv_at hl 0 rfl) ?_
          refine va_get (ci := 6) (v := .ref (aT 0)) (C := RX6) (T := TX6) (N := 9) hx hb ht inX6 hown hK.1 hP 0 rfl rfl 2 (by decide) (ht _ q_265) (fun _ h9 => h9) rfl dX6_ahead_23 ?_
          refine lv_aload_n hx hb dX6_ahead_26 rfl (lv_at hl 0 rfl) ?_
          refine va_get (ci := 6) (v := .ref (aN 0)) (C := RX6) (T := TX6) (N := 9) hx hb ht inX6 hown hK.1 hP 0 rfl rfl 1 (by decide) (ht _ q_264) (fun _ h9 => h9) rfl dX6_ahead_27 ?_
          refine k_callv (kRunV (As := [.ref (aN 0)]) (rest := []) kx (c_X5_copyFrom l G gT gN aT aN hN) q_439 q_436 q_31 q_437 q_438 nX5_copyFrom ⟨Nat.le_of_ble_eq_true rfl, Nat.le_of_ble_eq_true rfl⟩ hK hP hD (kCtx_in (kCtx_swap0 _ _)) 0 5 rfl rfl rfl rfl hl.1 (Nat.le_of_ble_eq_true rfl) dX6_ahead_30 ⟨Nat.zero_le _, Nat.zero_le _⟩) hP hD hS hA (kCtx_in (kCtx_swap0 _ _)) (fun _ => rfl) (fun _ H1 locs1 hw hP1 hD1 hS1 => ?_)
          have hP2 : va_P G.1 vwCl ([(h0, .inr (6, cQ (kc cA) t0 (aN 0) (aT 0) b0 s0 i0 e0 sd))] ++ (cW aN gN ++ (cW aT gN))) H1 := hP1
          have hD3 : va_D A ([(h0, .inr (6, cQ (kc cA) t0 (aN 0) (aT 0) b0 s0 i0 e0 sd))] ++ (cW aN gN ++ (cW aT gN))) := hD1
          refine lv_aload_n hx hb dX6_ahead_33 rfl (lv_at hl 0 rfl) ?_
          refine va_get (ci := 6) (v := .ref (aT 0)) (C := RX6) (T := TX6) (N := 9) hx hb ht inX6 hown hK.1 hP2 0 rfl rfl 2 (by decide) (ht _ q_265) (fun _ h9 => h9) rfl dX6_ahead_34 ?_
          refine lv_iload_n hx hb dX6_ahead_37 rfl (lv_at hl 1 rfl) ?_
          refine k_callv (kRunV (As := [.int p0]) (rest := []) kx (c_X5_run l G gN aT p0 hN) q_355 q_498 q_31 q_353 q_354 nX5_run ⟨Nat.le_of_ble_eq_true rfl, Nat.le_of_ble_eq_true rfl⟩ hK hP2 hD3 (kCtx_in (kCtx_end _ _)) 0 5 rfl rfl rfl rfl hl.1 (Nat.le_of_ble_eq_true rfl) dX6_ahead_38 ⟨Nat.zero_le _, Nat.zero_le _⟩) hP2 hD3 hS1 hA (kCtx_in (kCtx_end _ _)) (fun _ => rfl) (fun g7 H4 locs4 hw hP4 hD4 hS4 => ?_)
          have hg7 : s_X5_run_g gN p0 = g7 := (show g7 = s_X5_run_g gN p0 from hw).symm
          have hP5 : va_P G.1 vwCl ([(h0, .inr (6, cQ (kc cA) t0 (aN 0) (aT 0) b0 s0 i0 e0 sd))] ++ (cW aN gN ++ (cW aT g7))) H4 := hP4
          have hD6 : va_D A ([(h0, .inr (6, cQ (kc cA) t0 (aN 0) (aT 0) b0 s0 i0 e0 sd))] ++ (cW aN gN ++ (cW aT g7))) := hD4
          refine lv_iload_n hx hb dX6_ahead_41 rfl (lv_at hl 2 rfl) ?_
          by_cases c8 : p1 = 0
          · skip
            refine lv_tableIn (off := 26) (tgt := 68) hx hb dX6_ahead_42 (by rw [c8]; decide) (by rw [c8]; decide) (by rw [c8]; rfl) (by decide) ?_
            refine lv_aload_n hx hb dX6_ahead_68 rfl (lv_at hl 0 rfl) ?_
            refine va_get (ci := 6) (v := .ref (aT 0)) (C := RX6) (T := TX6) (N := 9) hx hb ht inX6 hown hK.1 hP5 0 rfl rfl 2 (by decide) (ht _ q_265) (fun _ h9 => h9) rfl dX6_ahead_69 ?_
            refine va_get (ci := 5) (v := .ref (aT 1)) (C := RX5) (T := TX5) (N := 8) hx hb ht inX5 hown hK.1 hP5 10 rfl rfl 0 (by decide) (ht _ q_209) (fun _ h9 => h9) rfl dX6_ahead_72 ?_
            refine va_get (ci := 0) (v := .int (g7 0 5)) (C := RX0) (T := TX0) (N := 12) hx hb ht inX0 hown hK.1 hP5 11 rfl rfl 5 (by decide) (ht _ q_115) (fun _ h9 => h9) rfl dX6_ahead_75 ?_
            have er : r_X6_ahead gN p0 p1 = g7 0 5 := by rw [r_X6_ahead]; (try rw [hg7]); rw [if_neg c1, if_neg c2, if_neg c3, if_pos c4, if_pos c8]
            have e0 : s_X6_ahead_gT gN gT p0 p1 = g7 := by rw [s_X6_ahead_gT]; (try rw [hg7]); rw [if_neg c1, if_neg c2, if_neg c3, if_pos c4, if_pos c8]
            exact k_iret kx hK hP5 hD6 hS4 (u := g7) rfl ⟨er.symm, e0.symm⟩ dX6_ahead_78
          · skip
            by_cases c9 : p1 = 1
            · skip
              refine lv_tableIn (off := 37) (tgt := 79) hx hb dX6_ahead_42 (by rw [c9]; decide) (by rw [c9]; decide) (by rw [c9]; rfl) (by decide) ?_
              refine lv_aload_n hx hb dX6_ahead_79 rfl (lv_at hl 0 rfl) ?_
              refine va_get (ci := 6) (v := .ref (aT 0)) (C := RX6) (T := TX6) (N := 9) hx hb ht inX6 hown hK.1 hP5 0 rfl rfl 2 (by decide) (ht _ q_265) (fun _ h9 => h9) rfl dX6_ahead_80 ?_
              refine va_get (ci := 5) (v := .ref (aT 3)) (C := RX5) (T := TX5) (N := 8) hx hb ht inX5 hown hK.1 hP5 10 rfl rfl 1 (by decide) (ht _ q_211) (fun _ h9 => h9) rfl dX6_ahead_83 ?_
              refine va_get (ci := 0) (v := .int (g7 1 5)) (C := RX0) (T := TX0) (N := 12) hx hb ht inX0 hown hK.1 hP5 13 rfl rfl 5 (by decide) (ht _ q_115) (fun _ h9 => h9) rfl dX6_ahead_86 ?_
              have er : r_X6_ahead gN p0 p1 = g7 1 5 := by rw [r_X6_ahead]; (try rw [hg7]); rw [if_neg c1, if_neg c2, if_neg c3, if_pos c4, if_neg c8, if_pos c9]
              have e0 : s_X6_ahead_gT gN gT p0 p1 = g7 := by rw [s_X6_ahead_gT]; (try rw [hg7]); rw [if_neg c1, if_neg c2, if_neg c3, if_pos c4, if_neg c8, if_pos c9]
              exact k_iret kx hK hP5 hD6 hS4 (u := g7) rfl ⟨er.symm, e0.symm⟩ dX6_ahead_89
            · skip
              by_cases c10 : p1 = 2
              · skip
                refine lv_tableIn (off := 48) (tgt := 90) hx hb dX6_ahead_42 (by rw [c10]; decide) (by rw [c10]; decide) (by rw [c10]; rfl) (by decide) ?_
                refine lv_aload_n hx hb dX6_ahead_90 rfl (lv_at hl 0 rfl) ?_
                refine va_get (ci := 6) (v := .ref (aT 0)) (C := RX6) (T := TX6) (N := 9) hx hb ht inX6 hown hK.1 hP5 0 rfl rfl 2 (by decide) (ht _ q_265) (fun _ h9 => h9) rfl dX6_ahead_91 ?_
                refine va_get (ci := 5) (v := .int (g7 4 1)) (C := RX5) (T := TX5) (N := 8) hx hb ht inX5 hown hK.1 hP5 10 rfl rfl 5 (by decide) (ht _ q_219) (fun _ h9 => h9) rfl dX6_ahead_94 ?_
                have er : r_X6_ahead gN p0 p1 = g7 4 1 := by rw [r_X6_ahead]; (try rw [hg7]); rw [if_neg c1, if_neg c2, if_neg c3, if_pos c4, if_neg c8, if_neg c9, if_pos c10]
                have e0 : s_X6_ahead_gT gN gT p0 p1 = g7 := by rw [s_X6_ahead_gT]; (try rw [hg7]); rw [if_neg c1, if_neg c2, if_neg c3, if_pos c4, if_neg c8, if_neg c9, if_pos c10]
                exact k_iret kx hK hP5 hD6 hS4 (u := g7) rfl ⟨er.symm, e0.symm⟩ dX6_ahead_97
              · skip
                have nc8 := lv_neT (a := 0) c8 (by decide)
                have nc9 := lv_neT (a := 1) c9 (by decide)
                have nc10 := lv_neT (a := 2) c10 (by decide)
                refine lv_tableOut (tgt := 98) hx hb dX6_ahead_42 (by omega) (by decide) ?_
                refine lv_aload_n hx hb dX6_ahead_98 rfl (lv_at hl 0 rfl) ?_
                refine va_get (ci := 6) (v := .ref (aT 0)) (C := RX6) (T := TX6) (N := 9) hx hb ht inX6 hown hK.1 hP5 0 rfl rfl 2 (by decide) (ht _ q_265) (fun _ h9 => h9) rfl dX6_ahead_99 ?_
                refine va_get (ci := 5) (v := .int (g7 4 2)) (C := RX5) (T := TX5) (N := 8) hx hb ht inX5 hown hK.1 hP5 10 rfl rfl 6 (by decide) (ht _ q_221) (fun _ h9 => h9) rfl dX6_ahead_102 ?_
                have er : r_X6_ahead gN p0 p1 = g7 4 2 := by rw [r_X6_ahead]; (try rw [hg7]); rw [if_neg c1, if_neg c2, if_neg c3, if_pos c4, if_neg c8, if_neg c9, if_neg c10]
                have e0 : s_X6_ahead_gT gN gT p0 p1 = g7 := by rw [s_X6_ahead_gT]; (try rw [hg7]); rw [if_neg c1, if_neg c2, if_neg c3, if_pos c4, if_neg c8, if_neg c9, if_neg c10]
                exact k_iret kx hK hP5 hD6 hS4 (u := g7) rfl ⟨er.symm, e0.symm⟩ dX6_ahead_105
        · skip
          refine lv_bipush (v := (-2)) hx hb dX6_ahead_19 (by decide) ?_
          have er : r_X6_ahead gN p0 p1 = (-2) := by rw [r_X6_ahead, if_neg c1, if_neg c2, if_neg c3, if_neg c4]
          have e0 : s_X6_ahead_gT gN gT p0 p1 = gT := by rw [s_X6_ahead_gT, if_neg c1, if_neg c2, if_neg c3, if_neg c4]
          exact k_iret kx hK hP hD hS (u := gT) rfl ⟨er.symm, e0.symm⟩ dX6_ahead_21

def r_X6_letters (gN : Nat → Nat → Int32) (p0 : Int32) : Int32 := if p0 < 0 then (-2) else if p0 ≤ 99 then (((s_X5_run_g gN p0) 4 1) - (gN 4 1)) else (-2)
def s_X6_letters_gT (gN : Nat → Nat → Int32) (gT : Nat → Nat → Int32) (p0 : Int32) : Nat → Nat → Int32 := if p0 < 0 then gT else if p0 ≤ 99 then (s_X5_run_g gN p0) else gT
set_option maxHeartbeats 4000000 in
set_option maxRecDepth 100000 in
theorem c_X6_letters (l : Launch) (G : kG) (cA : Int32) (sd : Int64) (h0 : Nat) (t0 : Nat) (aN : Nat → Nat) (aT : Nat → Nat) (b0 : Nat) (s0 : Nat) (i0 : Nat) (e0 : Nat) (gN : Nat → Nat → Int32) (gT : Nat → Nat → Int32) (p0 : Int32) (hN : bW gN) : cG l G yX6_letters cX6_letters 2 (some .int) 5 [.ref h0, .int p0] ([(h0, .inr (6, cQ (kc cA) t0 (aN 0) (aT 0) b0 s0 i0 e0 sd))] ++ (cW aN gN ++ (cW aT gT))) (qI G (fun (r : Int32) (u : (Nat → Nat → Int32)) => r = r_X6_letters gN p0 ∧ u = s_X6_letters_gT gN gT p0) (fun u => [(h0, .inr (6, cQ (kc cA) t0 (aN 0) (aT 0) b0 s0 i0 e0 sd))] ++ (cW aN gN ++ (cW aT u)))) := by
  refine kintro (by decide) (Nat.le_of_ble_eq_true rfl) ?_
  intro p e s m args below meth c A ls kx hK hP hD hS hA hl
  have kx : kX p s m args meth c cX6_letters 2 (some .int) RX6 := kx
  have hx := kx.1
  have hb := kx.2.1
  have hown := kx.2.2.2.2.1
  have ht := kx.2.2.2.2.2.2
  have hl : lv_has ls 2 [(0, .ref h0), (1, .int p0)] := hl
  refine lv_iload_n hx hb dX6_letters_0 rfl (lv_at hl 1 rfl) ?_
  refine lv_if_lt (x := p0) (tgt := 10) hx hb dX6_letters_1 (by decide) (fun (c1 : p0 < 0) => ?_) (fun (c1 : ¬ (p0 < 0)) => ?_)
  · skip
    refine lv_bipush (v := (-2)) hx hb dX6_letters_10 (by decide) ?_
    have er : r_X6_letters gN p0 = (-2) := by rw [r_X6_letters, if_pos c1]
    have e0 : s_X6_letters_gT gN gT p0 = gT := by rw [s_X6_letters_gT, if_pos c1]
    exact k_iret kx hK hP hD hS (u := gT) rfl ⟨er.symm, e0.symm⟩ dX6_letters_12
  · skip
    refine lv_iload_n hx hb dX6_letters_4 rfl (lv_at hl 1 rfl) ?_
    refine lv_bipush (v := 99) hx hb dX6_letters_5 (by decide) ?_
    refine lv_icmp_le (x := p0) (y := 99) (tgt := 13) hx hb dX6_letters_7 (by decide) (fun (c2 : p0 ≤ 99) => ?_) (fun (c2 : ¬ (p0 ≤ 99)) => ?_)
    · skip
      refine lv_aload_n hx hb dX6_letters_13 rfl (lv_at hl 0 rfl) ?_
      refine va_get (ci := 6) (v := .ref (aT 0)) (C := RX6) (T := TX6) (N := 9) hx hb ht inX6 hown hK.1 hP 0 rfl rfl 2 (by decide) (ht _ q_265) (fun _ h9 => h9) rfl dX6_letters_14 ?_
      refine lv_aload_n hx hb dX6_letters_17 rfl (lv_at hl 0 rfl) ?_
      refine va_get (ci := 6) (v := .ref (aN 0)) (C := RX6) (T := TX6) (N := 9) hx hb ht inX6 hown hK.1 hP 0 rfl rfl 1 (by decide) (ht _ q_264) (fun _ h9 => h9) rfl dX6_letters_18 ?_
      refine k_callv (kRunV (As := [.ref (aN 0)]) (rest := []) kx (c_X5_copyFrom l G gT gN aT aN hN) q_439 q_436 q_31 q_437 q_438 nX5_copyFrom ⟨Nat.le_of_ble_eq_true rfl, Nat.le_of_ble_eq_true rfl⟩ hK hP hD (kCtx_in (kCtx_swap0 _ _)) 0 5 rfl rfl rfl rfl hl.1 (Nat.le_of_ble_eq_true rfl) dX6_letters_21 ⟨Nat.zero_le _, Nat.zero_le _⟩) hP hD hS hA (kCtx_in (kCtx_swap0 _ _)) (fun _ => rfl) (fun _ H1 locs1 hw hP1 hD1 hS1 => ?_)
      have hP2 : va_P G.1 vwCl ([(h0, .inr (6, cQ (kc cA) t0 (aN 0) (aT 0) b0 s0 i0 e0 sd))] ++ (cW aN gN ++ (cW aT gN))) H1 := hP1
      have hD3 : va_D A ([(h0, .inr (6, cQ (kc cA) t0 (aN 0) (aT 0) b0 s0 i0 e0 sd))] ++ (cW aN gN ++ (cW aT gN))) := hD1
      refine lv_aload_n hx hb dX6_letters_24 rfl (lv_at hl 0 rfl) ?_
      refine va_get (ci := 6) (v := .ref (aT 0)) (C := RX6) (T := TX6) (N := 9) hx hb ht inX6 hown hK.1 hP2 0 rfl rfl 2 (by decide) (ht _ q_265) (fun _ h9 => h9) rfl dX6_letters_25 ?_
      refine lv_iload_n hx hb dX6_letters_28 rfl (lv_at hl 1 rfl) ?_
      refine k_callv (kRunV (As := [.int p0]) (rest := []) kx (c_X5_run l G gN aT p0 hN) q_355 q_498 q_31 q_353 q_354 nX5_run ⟨Nat.le_of_ble_eq_true rfl, Nat.le_of_ble_eq_true rfl⟩ hK hP2 hD3 (kCtx_in (kCtx_end _ _)) 0 5 rfl rfl rfl rfl hl.1 (Nat.le_of_ble_eq_true rfl) dX6_letters_29 ⟨Nat.zero_le _, Nat.zero_le _⟩) hP2 hD3 hS1 hA (kCtx_in (kCtx_end _ _)) (fun _ => rfl) (fun g5 H4 locs4 hw hP4 hD4 hS4 => ?_)
      have hg5 : s_X5_run_g gN p0 = g5 := (show g5 = s_X5_run_g gN p0 from hw).symm
      have hP5 : va_P G.1 vwCl ([(h0, .inr (6, cQ (kc cA) t0 (aN 0) (aT 0) b0 s0 i0 e0 sd))] ++ (cW aN gN ++ (cW aT g5))) H4 := hP4
      have hD6 : va_D A ([(h0, .inr (6, cQ (kc cA) t0 (aN 0) (aT 0) b0 s0 i0 e0 sd))] ++ (cW aN gN ++ (cW aT g5))) := hD4
      refine lv_aload_n hx hb dX6_letters_32 rfl (lv_at hl 0 rfl) ?_
      refine va_get (ci := 6) (v := .ref (aT 0)) (C := RX6) (T := TX6) (N := 9) hx hb ht inX6 hown hK.1 hP5 0 rfl rfl 2 (by decide) (ht _ q_265) (fun _ h9 => h9) rfl dX6_letters_33 ?_
      refine va_get (ci := 5) (v := .int (g5 4 1)) (C := RX5) (T := TX5) (N := 8) hx hb ht inX5 hown hK.1 hP5 10 rfl rfl 5 (by decide) (ht _ q_219) (fun _ h9 => h9) rfl dX6_letters_36 ?_
      refine lv_aload_n hx hb dX6_letters_39 rfl (lv_at hl 0 rfl) ?_
      refine va_get (ci := 6) (v := .ref (aN 0)) (C := RX6) (T := TX6) (N := 9) hx hb ht inX6 hown hK.1 hP5 0 rfl rfl 1 (by decide) (ht _ q_264) (fun _ h9 => h9) rfl dX6_letters_40 ?_
      refine va_get (ci := 5) (v := .int (gN 4 1)) (C := RX5) (T := TX5) (N := 8) hx hb ht inX5 hown hK.1 hP5 1 rfl rfl 5 (by decide) (ht _ q_219) (fun _ h9 => h9) rfl dX6_letters_43 ?_
      refine lv_isub hx hb dX6_letters_46 ?_
      have er : r_X6_letters gN p0 = (g5 4 1) - (gN 4 1) := by rw [r_X6_letters]; (try rw [hg5]); rw [if_neg c1, if_pos c2]
      have e0 : s_X6_letters_gT gN gT p0 = g5 := by rw [s_X6_letters_gT]; (try rw [hg5]); rw [if_neg c1, if_pos c2]
      exact k_iret kx hK hP5 hD6 hS4 (u := g5) rfl ⟨er.symm, e0.symm⟩ dX6_letters_47
    · skip
      refine lv_bipush (v := (-2)) hx hb dX6_letters_10 (by decide) ?_
      have er : r_X6_letters gN p0 = (-2) := by rw [r_X6_letters, if_neg c1, if_neg c2]
      have e0 : s_X6_letters_gT gN gT p0 = gT := by rw [s_X6_letters_gT, if_neg c1, if_neg c2]
      exact k_iret kx hK hP hD hS (u := gT) rfl ⟨er.symm, e0.symm⟩ dX6_letters_12
