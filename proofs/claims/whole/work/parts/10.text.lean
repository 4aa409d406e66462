abbrev kc (x : Int32) : Nat → Int32 := fun _ => x
theorem krun_z {p0 : Int32} {j : Nat} (hj : j + 0 = p0.toNatClampNeg) : p0 ≤ nI j := by
  rcases Int32.lt_or_le p0 0 with h | h
  · have : p0.toNatClampNeg < 2 ^ 31 := by
      have := Int32.toInt_lt p0
      have e : p0.toNatClampNeg = p0.toInt.toNat := rfl
      omega
    exact Int32.le_trans (Int32.le_of_lt h) (nI_pos' (by omega))
  · obtain ⟨k, hk, rfl⟩ := nI_of (x := p0) (fun q => Int32.lt_irrefl (Int32.lt_of_lt_of_le q h))
    rw [nI_clamp hk] at hj
    rw [← hj]; exact Int32.le_refl _
theorem krun_s {p0 : Int32} {j n : Nat} (hj : j + (n + 1) = p0.toNatClampNeg) : ¬ p0 ≤ nI j := by
  rcases Int32.lt_or_le p0 0 with h | h
  · have e : p0.toNatClampNeg = 0 := by
      have := Int32.lt_iff_toInt_lt.mp h
      have e : p0.toNatClampNeg = p0.toInt.toNat := rfl
      simp at this
      omega
    omega
  · obtain ⟨k, hk, rfl⟩ := nI_of (x := p0) (fun q => Int32.lt_irrefl (Int32.lt_of_lt_of_le q h))
    rw [nI_clamp hk] at hj
    intro q
    have := (nI_leI hk (by omega)).mp q
    omega
theorem knle {b : Int32} {N j : Nat} (hb : b = nI N) (hj : j < N) (hN : N < 2 ^ 31) : ¬ b ≤ nI j := by
  rw [hb]; intro h
  have := (nI_leI hN (by omega)).mp h
  omega
theorem knlt {b : Int32} {N j : Nat} (hb : b = nI N) (hj : j ≤ N) (hN : N < 2 ^ 31) : ¬ b < nI j := by
  rw [hb]; intro h
  have := (nI_ltI hN (by omega)).mp h
  omega

def l_X5_run_1_g : Nat → Nat → (Nat → Nat → Int32) → Nat → Nat → Int32
  | 0, j1, g_1 => g_1
  | n1 + 1, j1, g_1 => l_X5_run_1_g n1 (j1 + 1) (s_X5_tick_g g_1)
def s_X5_run_g (g : Nat → Nat → Int32) (p0 : Int32) : Nat → Nat → Int32 := l_X5_run_1_g p0.toNatClampNeg 0 g
set_option maxHeartbeats 4000000 in
set_option maxRecDepth 100000 in
theorem c_X5_run (l : Launch) (G : kG) (g : Nat → Nat → Int32) (a : Nat → Nat) (p0 : Int32) (hg : bW g) : cG l G yX5_run cX5_run 3 none 4 [.ref (a 0), .int p0] (cW a g) (qV G (fun u : (Nat → Nat → Int32) => u = s_X5_run_g g p0) (fun u => cW a u)) := by
  refine kintro (by decide) (Nat.le_of_ble_eq_true rfl) ?_
  intro p e s m args below meth c A ls kx hK hP hD hS hA hl
  have kx : kX p s m args meth c cX5_run 3 none RX5 := kx
  have hx := kx.1
  have hb := kx.2.1
  have hown := kx.2.2.2.2.1
  have ht := kx.2.2.2.2.2.2
  have hl : lv_has ls 3 [(0, .ref (a 0)), (1, .int p0)] := hl
  refine lv_iconst (v := 0) hx hb dX5_run_0 (by decide) ?_
  refine lv_istore_n (lv' := [(2, .int 0), (0, .ref (a 0)), (1, .int p0)]) hx hb dX5_run_1 rfl hl (by decide) rfl (fun ls1 hl1 => ?_)
  have lp1 : ∀ (n1 j1 : Nat) (g_1 : Nat → Nat → Int32), j1 + n1 = p0.toNatClampNeg → (hg_1 : s_X5_run_g g p0 = l_X5_run_1_g n1 j1 g_1) → (hb1 : bW g_1) → ∀ (H : Heap) (locs : List Loc) (ls : Array Slot), va_P G.1 vwCl (cW a g_1) H → va_D A (cW a g_1) → va_S A s.heap H locs → lv_has ls 3 [(0, .ref (a 0)), (1, .int p0), (2, .int (nI j1))] → W p l e (kr 4) s m args below meth c H locs 0 0 (MQ below (qV G (fun u : (Nat → Nat → Int32) => u = s_X5_run_g g p0) (fun u => cW a u) A) args s 0 0 A) (F0 m 2 ls []) := by
    intro n1
    induction n1 with
    | zero =>
      intro j1 g_1 hj1 hg_1 hb1 H2 locs2 ls2 hP2 hD2 hS2 hl2
      refine lv_iload_n hx hb dX5_run_2 rfl (lv_at hl2 2 rfl) ?_
      refine lv_iload_n hx hb dX5_run_3 rfl (lv_at hl2 1 rfl) ?_
      refine lv_icmp_ge (x := nI j1) (y := p0) (tgt := 17) hx hb dX5_run_4 (by decide) (fun (c1 : p0 ≤ nI j1) => ?_) (fun (c1 : ¬ (p0 ≤ nI j1)) => absurd (krun_z hj1) c1)
      have e0 : s_X5_run_g g p0 = g_1 := by rw [hg_1, l_X5_run_1_g]
      exact k_vret kx hK hP2 hD2 hS2 (u := g_1) rfl e0.symm dX5_run_17
    | succ n1 ih1 =>
      intro j1 g_1 hj1 hg_1 hb1 H2 locs2 ls2 hP2 hD2 hS2 hl2
      refine lv_iload_n hx hb dX5_run_2 rfl (lv_at hl2 2 rfl) ?_
      refine lv_iload_n hx hb dX5_run_3 rfl (lv_at hl2 1 rfl) ?_
      refine lv_icmp_ge (x := nI j1) (y := p0) (tgt := 17) hx hb dX5_run_4 (by decide) (fun (c2 : p0 ≤ nI j1) => absurd c2 (krun_s hj1)) (fun (c2 : ¬ (p0 ≤ nI j1)) => ?_)
      refine lv_aload_n hx hb dX5_run_7 rfl (lv_at hl2 0 rfl) ?_
      refine k_callv (kRunV (As := []) (rest := []) kx (c_X5_tick l G g_1 a hb1) q_359 q_356 q_31 q_357 q_358 nX5_tick ⟨Nat.le_of_ble_eq_true rfl, Nat.le_of_ble_eq_true rfl⟩ hK hP2 hD2 (kCtx_all _) 0 5 rfl rfl rfl rfl hl2.1 (Nat.le_of_ble_eq_true rfl) dX5_run_8 ⟨Nat.zero_le _, Nat.zero_le _⟩) hP2 hD2 hS2 hA (kCtx_all _) (fun _ => rfl) (fun g4 H3 locs3 hw hP3 hD3 hS3 => ?_)
      have hg4 : s_X5_tick_g g_1 = g4 := (show g4 = s_X5_tick_g g_1 from hw).symm
      have hP4 : va_P G.1 vwCl (cW a g4) H3 := hP3
      have hD5 : va_D A (cW a g4) := hD3
      refine lv_iinc (v := nI (j1 + 1)) (lv' := [(2, .int (nI (j1 + 1))), (0, .ref (a 0)), (1, .int p0)]) hx hb dX5_run_11 hl2 (k := 2) rfl (nI_1 j1) (by decide) rfl (fun ls6 hl6 => ?_)
      refine lv_goto (tgt := 2) hx hb dX5_run_14 (by decide) ?_
      subst hg4
      have gg : s_X5_run_g g p0 = l_X5_run_1_g n1 (j1 + 1) (s_X5_tick_g g_1) := by rw [hg_1, l_X5_run_1_g]
      exact ih1 (j1 + 1) (s_X5_tick_g g_1) (by omega) gg (b_s_X5_tick_g g_1 hb1) _ _ _ hP4 hD5 hS3 (lv_sub hl6 [1, 2, 0] rfl)
  have gg : s_X5_run_g g p0 = l_X5_run_1_g p0.toNatClampNeg 0 g := by rw [s_X5_run_g]
  exact lp1 p0.toNatClampNeg 0 g (by omega) gg hg _ _ _ hP hD hS (lv_sub hl1 [1, 2, 0] rfl)

set_option maxHeartbeats 4000000 in
set_option maxRecDepth 100000 in
theorem c_X3_add (l : Launch) (G : kG) (L : Nat) (sg : Nat → Int32) (h0 : Nat) (h1 : Nat) (p0 : Int32) (hL : L < 70) : cG l G yX3_add cX3_add 2 none 0 [.ref h0, .int p0] ([(h0, .inr (3, cX (kc (nI L)) h1)), (h1, .inl (G.2.1, 70, .inl sg))]) (qV G (fun _ : Unit => True) (fun _ => [(h0, .inr (3, cX (kc ((nI L) + 1)) h1)), (h1, .inl (G.2.1, 70, .inl (upd sg L p0)))])) := by
  refine kintro (by decide) (Nat.le_of_ble_eq_true rfl) ?_
  intro p e s m args below meth c A ls kx hK hP hD hS hA hl
  have kx : kX p s m args meth c cX3_add 2 none RX3 := kx
  have hx := kx.1
  have hb := kx.2.1
  have hown := kx.2.2.2.2.1
  have ht := kx.2.2.2.2.2.2
  have hl : lv_has ls 2 [(0, .ref h0), (1, .int p0)] := hl
  refine lv_aload_n hx hb dX3_add_0 rfl (lv_at hl 0 rfl) ?_
  refine va_get (ci := 3) (v := .int (nI L)) (C := RX3) (T := TX3) (N := 2) hx hb ht inX3 hown hK.1 hP 0 rfl rfl 1 (by decide) (ht _ q_54) (fun _ h9 => h9) rfl dX3_add_1 ?_
  refine lv_if_lt (x := nI L) (tgt := 36) hx hb dX3_add_4 (by decide) (fun (c1 : nI L < 0) => absurd c1 (nI_pos (by omega))) (fun (c1 : ¬ (nI L < 0)) => ?_)
  refine lv_aload_n hx hb dX3_add_7 rfl (lv_at hl 0 rfl) ?_
  refine va_get (ci := 3) (v := .int (nI L)) (C := RX3) (T := TX3) (N := 2) hx hb ht inX3 hown hK.1 hP 0 rfl rfl 1 (by decide) (ht _ q_54) (fun _ h9 => h9) rfl dX3_add_8 ?_
  refine lv_bipush (v := 70) hx hb dX3_add_11 (by decide) ?_
  refine lv_icmp_ge (x := nI L) (y := 70) (tgt := 36) hx hb dX3_add_13 (by decide) (fun (c2 : 70 ≤ nI L) => absurd c2 (knle (N := 70) rfl hL (by decide))) (fun (c2 : ¬ (70 ≤ nI L)) => ?_)
  refine lv_aload_n hx hb dX3_add_16 rfl (lv_at hl 0 rfl) ?_
  refine va_get (ci := 3) (v := .ref h1) (C := RX3) (T := TX3) (N := 2) hx hb ht inX3 hown hK.1 hP 0 rfl rfl 0 (by decide) (ht _ q_53) (fun _ h9 => h9) rfl dX3_add_17 ?_
  refine lv_aload_n hx hb dX3_add_20 rfl (lv_at hl 0 rfl) ?_
  refine va_get (ci := 3) (v := .int (nI L)) (C := RX3) (T := TX3) (N := 2) hx hb ht inX3 hown hK.1 hP 0 rfl rfl 1 (by decide) (ht _ q_54) (fun _ h9 => h9) rfl dX3_add_21 ?_
  refine lv_iload_n hx hb dX3_add_24 rfl (lv_at hl 1 rfl) ?_
  refine k_iast kx hK hP hD hS 1 rfl L rfl hL (by decide) dX3_add_25 (fun H1 locs1 hP1 hD1 hS1 => ?_)
  have hP2 : va_P G.1 vwCl ([(h0, .inr (3, cX (kc (nI L)) h1)), (h1, .inl (G.2.1, 70, .inl (upd sg L p0)))]) H1 := hP1
  have hD3 : va_D A ([(h0, .inr (3, cX (kc (nI L)) h1)), (h1, .inl (G.2.1, 70, .inl (upd sg L p0)))]) := hD1
  refine lv_aload_n hx hb dX3_add_26 rfl (lv_at hl 0 rfl) ?_
  refine lv_dup hx hb dX3_add_27 rfl ?_
  refine va_get (ci := 3) (v := .int (nI L)) (C := RX3) (T := TX3) (N := 2) hx hb ht inX3 hown hK.1 hP2 0 rfl rfl 1 (by decide) (ht _ q_54) (fun _ h9 => h9) rfl dX3_add_28 ?_
  refine lv_iconst (v := 1) hx hb dX3_add_31 (by decide) ?_
  refine lv_iadd hx hb dX3_add_32 ?_
  refine va_put (ci := 3) (v := .int ((nI L) + 1)) (ty := .int) (C := RX3) (T := TX3) (N := 2) hx hb ht inX3 tyX3 tyX3_ok nmX3 hown hK.1 hP2 hD3 hS1 0 rfl rfl 1 (by decide) (ht _ q_54) (fun _ h9 => h9) rfl (by decide +kernel) rfl rfl (Nat.le_of_ble_eq_true rfl) dX3_add_33 (fun H4 locs4 hP4 hD4 hS4 => ?_)
  have hP5 : va_P G.1 vwCl ([(h0, .inr (3, cX (kc ((nI L) + 1)) h1)), (h1, .inl (G.2.1, 70, .inl (upd sg L p0)))]) H4 := hP4
  have hD6 : va_D A ([(h0, .inr (3, cX (kc ((nI L) + 1)) h1)), (h1, .inl (G.2.1, 70, .inl (upd sg L p0)))]) := hD4
  exact k_vret kx hK hP5 hD6 hS4 (u := ()) rfl trivial dX3_add_36

def r_X3_fitsHead (p0 : Int32) (p1 : Int32) : Int32 := if p0 = 0 then (if p1 = 66 then 1 else 0) else if kRem p0 3 = 0 then (if p1 < 49 then 0 else if 53 < p1 then 0 else 1) else if p1 < 49 then 0 else if 57 < p1 then 0 else 1
set_option maxHeartbeats 4000000 in
set_option maxRecDepth 100000 in
theorem c_X3_fitsHead (l : Launch) (G : kG) (p0 : Int32) (p1 : Int32) : cG l G yX3_fitsHead cX3_fitsHead 3 (some .boolean) 0 [.int p0, .int p1] ([]) (qI G (fun (r : Int32) (_ : Unit) => r = r_X3_fitsHead p0 p1) (fun _ => [])) := by
  refine kintro (by decide) (Nat.le_of_ble_eq_true rfl) ?_
  intro p e s m args below meth c A ls kx hK hP hD hS hA hl
  have kx : kX p s m args meth c cX3_fitsHead 3 (some .boolean) RX3 := kx
  have hx := kx.1
  have hb := kx.2.1
  have hown := kx.2.2.2.2.1
  have ht := kx.2.2.2.2.2.2
  have hl : lv_has ls 3 [(0, .int p0), (1, .int p1)] := hl
  refine lv_iload_n hx hb dX3_fitsHead_0 rfl (lv_at hl 0 rfl) ?_
  refine lv_if_ne (x := p0) (tgt := 16) hx hb dX3_fitsHead_1 (by decide) (fun (c1 : ¬ (p0 = 0)) => ?_) (fun (c1 : p0 = 0) => ?_)
  · skip
    refine lv_iload_n hx hb dX3_fitsHead_16 rfl (lv_at hl 0 rfl) ?_
    refine lv_iconst (v := 3) hx hb dX3_fitsHead_17 (by decide) ?_
    refine lv_irem hx hb dX3_fitsHead_18 (by decide) ?_
    refine k_top (y := kRem p0 3) rfl ?_
    refine lv_if_ne (x := kRem p0 3) (tgt := 26) hx hb dX3_fitsHead_19 (by decide) (fun (c2 : ¬ (kRem p0 3 = 0)) => ?_) (fun (c2 : kRem p0 3 = 0) => ?_)
    · skip
      refine lv_bipush (v := 9) hx hb dX3_fitsHead_26 (by decide) ?_
      refine lv_istore_n (lv' := [(2, .int 9), (0, .int p0), (1, .int p1)]) hx hb dX3_fitsHead_28 rfl hl (by decide) rfl (fun ls1 hl1 => ?_)
      refine lv_iload_n hx hb dX3_fitsHead_29 rfl (lv_at hl1 2 rfl) ?_
      refine lv_bipush (v := 49) hx hb dX3_fitsHead_30 (by decide) ?_
      refine lv_icmp_lt (x := p1) (y := 49) (tgt := 47) hx hb dX3_fitsHead_32 (by decide) (fun (c3 : p1 < 49) => ?_) (fun (c3 : ¬ (p1 < 49)) => ?_)
      · skip
        refine lv_iconst (v := 0) hx hb dX3_fitsHead_47 (by decide) ?_
        have er : r_X3_fitsHead p0 p1 = 0 := by rw [r_X3_fitsHead, if_neg c1, if_neg c2, if_pos c3]
        exact k_zret kx hK hP hD hS (u := ()) rfl er.symm kb0 dX3_fitsHead_48
      · skip
        refine lv_iload_n hx hb dX3_fitsHead_35 rfl (lv_at hl1 2 rfl) ?_
        refine lv_bipush (v := 48) hx hb dX3_fitsHead_36 (by decide) ?_
        refine lv_iload_n hx hb dX3_fitsHead_38 rfl (lv_at hl1 0 rfl) ?_
        refine lv_iadd hx hb dX3_fitsHead_39 ?_
        refine k_top (y := 57) (by decide +kernel) ?_
        refine lv_icmp_gt (x := p1) (y := 57) (tgt := 47) hx hb dX3_fitsHead_40 (by decide) (fun (c4 : 57 < p1) => ?_) (fun (c4 : ¬ (57 < p1)) => ?_)
        · skip
          refine lv_iconst (v := 0) hx hb dX3_fitsHead_47 (by decide) ?_
          have er : r_X3_fitsHead p0 p1 = 0 := by rw [r_X3_fitsHead, if_neg c1, if_neg c2, if_neg c3, if_pos c4]
          exact k_zret kx hK hP hD hS (u := ()) rfl er.symm kb0 dX3_fitsHead_48
        · skip
          refine lv_iconst (v := 1) hx hb dX3_fitsHead_43 (by decide) ?_
          refine lv_goto (tgt := 48) hx hb dX3_fitsHead_44 (by decide) ?_
          have er : r_X3_fitsHead p0 p1 = 1 := by rw [r_X3_fitsHead, if_neg c1, if_neg c2, if_neg c3, if_neg c4]
          exact k_zret kx hK hP hD hS (u := ()) rfl er.symm kb1 dX3_fitsHead_48
    · skip
      refine lv_iconst (v := 5) hx hb dX3_fitsHead_22 (by decide) ?_
      refine lv_goto (tgt := 28) hx hb dX3_fitsHead_23 (by decide) ?_
      refine lv_istore_n (lv' := [(2, .int 5), (0, .int p0), (1, .int p1)]) hx hb dX3_fitsHead_28 rfl hl (by decide) rfl (fun ls2 hl2 => ?_)
      refine lv_iload_n hx hb dX3_fitsHead_29 rfl (lv_at hl2 2 rfl) ?_
      refine lv_bipush (v := 49) hx hb dX3_fitsHead_30 (by decide) ?_
      refine lv_icmp_lt (x := p1) (y := 49) (tgt := 47) hx hb dX3_fitsHead_32 (by decide) (fun (c5 : p1 < 49) => ?_) (fun (c5 : ¬ (p1 < 49)) => ?_)
      · skip
        refine lv_iconst (v := 0) hx hb dX3_fitsHead_47 (by decide) ?_
        have er : r_X3_fitsHead p0 p1 = 0 := by rw [r_X3_fitsHead, if_neg c1, if_pos c2, if_pos c5]
        exact k_zret kx hK hP hD hS (u := ()) rfl er.symm kb0 dX3_fitsHead_48
      · skip
        refine lv_iload_n hx hb dX3_fitsHead_35 rfl (lv_at hl2 2 rfl) ?_
        refine lv_bipush (v := 48) hx hb dX3_fitsHead_36 (by decide) ?_
        refine lv_iload_n hx hb dX3_fitsHead_38 rfl (lv_at hl2 0 rfl) ?_
        refine lv_iadd hx hb dX3_fitsHead_39 ?_
        refine k_top (y := 53) (by decide +kernel) ?_
        refine lv_icmp_gt (x := p1) (y := 53) (tgt := 47) hx hb dX3_fitsHead_40 (by decide) (fun (c6 : 53 < p1) => ?_) (fun (c6 : ¬ (53 < p1)) => ?_)
        · skip
          refine lv_iconst (v := 0) hx hb dX3_fitsHead_47 (by decide) ?_
          have er : r_X3_fitsHead p0 p1 = 0 := by rw [r_X3_fitsHead, if_neg c1, if_pos c2, if_neg c5, if_pos c6]
          exact k_zret kx hK hP hD hS (u := ()) rfl er.symm kb0 dX3_fitsHead_48
        · skip
          refine lv_iconst (v := 1) hx hb dX3_fitsHead_43 (by decide) ?_
          refine lv_goto (tgt := 48) hx hb dX3_fitsHead_44 (by decide) ?_
          have er : r_X3_fitsHead p0 p1 = 1 := by rw [r_X3_fitsHead, if_neg c1, if_pos c2, if_neg c5, if_neg c6]
          exact k_zret kx hK hP hD hS (u := ()) rfl er.symm kb1 dX3_fitsHead_48
  · skip
    refine lv_iload_n hx hb dX3_fitsHead_4 rfl (lv_at hl 1 rfl) ?_
    refine lv_bipush (v := 66) hx hb dX3_fitsHead_5 (by decide) ?_
    refine lv_icmp_ne (x := p1) (y := 66) (tgt := 14) hx hb dX3_fitsHead_7 (by decide) (fun (c7 : ¬ (p1 = 66)) => ?_) (fun (c7 : p1 = 66) => ?_)
    · skip
      refine lv_iconst (v := 0) hx hb dX3_fitsHead_14 (by decide) ?_
      have er : r_X3_fitsHead p0 p1 = 0 := by rw [r_X3_fitsHead, if_pos c1, if_neg c7]
      exact k_zret kx hK hP hD hS (u := ()) rfl er.symm kb0 dX3_fitsHead_15
    · skip
      refine lv_iconst (v := 1) hx hb dX3_fitsHead_10 (by decide) ?_
      refine lv_goto (tgt := 15) hx hb dX3_fitsHead_11 (by decide) ?_
      have er : r_X3_fitsHead p0 p1 = 1 := by rw [r_X3_fitsHead, if_pos c1, if_pos c7]
      exact k_zret kx hK hP hD hS (u := ()) rfl er.symm kb1 dX3_fitsHead_15
theorem kbr_X3_fitsHead (p0 : Int32) (p1 : Int32) : kb (r_X3_fitsHead p0 p1) := by
  unfold r_X3_fitsHead
  repeat' split
  all_goals first | exact kb0 | exact kb1

def r_X3_fitsEvent (p0 : Int32) (p1 : Int32) : Int32 := if p0 = 0 then (if p1 = 100 then 1 else if p1 = 119 then 1 else if p1 < 49 then 0 else if 57 < p1 then 0 else 1) else if p1 = 48 then 1 else if p1 = 49 then 1 else 0
set_option maxHeartbeats 4000000 in
set_option maxRecDepth 100000 in
theorem c_X3_fitsEvent (l : Launch) (G : kG) (p0 : Int32) (p1 : Int32) : cG l G yX3_fitsEvent cX3_fitsEvent 2 (some .boolean) 0 [.int p0, .int p1] ([]) (qI G (fun (r : Int32) (_ : Unit) => r = r_X3_fitsEvent p0 p1) (fun _ => [])) := by
  refine kintro (by decide) (Nat.le_of_ble_eq_true rfl) ?_
  intro p e s m args below meth c A ls kx hK hP hD hS hA hl
  have kx : kX p s m args meth c cX3_fitsEvent 2 (some .boolean) RX3 := kx
  have hx := kx.1
  have hb := kx.2.1
  have hown := kx.2.2.2.2.1
  have ht := kx.2.2.2.2.2.2
  have hl : lv_has ls 2 [(0, .int p0), (1, .int p1)] := hl
  refine lv_iload_n hx hb dX3_fitsEvent_0 rfl (lv_at hl 0 rfl) ?_
  refine lv_if_eq (x := p0) (tgt := 22) hx hb dX3_fitsEvent_1 (by decide) (fun (c1 : p0 = 0) => ?_) (fun (c1 : ¬ (p0 = 0)) => ?_)
  · skip
    refine lv_iload_n hx hb dX3_fitsEvent_22 rfl (lv_at hl 1 rfl) ?_
    refine lv_bipush (v := 100) hx hb dX3_fitsEvent_23 (by decide) ?_
    refine lv_icmp_eq (x := p1) (y := 100) (tgt := 46) hx hb dX3_fitsEvent_25 (by decide) (fun (c2 : p1 = 100) => ?_) (fun (c2 : ¬ (p1 = 100)) => ?_)
    · skip
      refine lv_iconst (v := 1) hx hb dX3_fitsEvent_46 (by decide) ?_
      refine lv_goto (tgt := 51) hx hb dX3_fitsEvent_47 (by decide) ?_
      have er : r_X3_fitsEvent p0 p1 = 1 := by rw [r_X3_fitsEvent, if_pos c1, if_pos c2]
      exact k_zret kx hK hP hD hS (u := ()) rfl er.symm kb1 dX3_fitsEvent_51
    · skip
      refine lv_iload_n hx hb dX3_fitsEvent_28 rfl (lv_at hl 1 rfl) ?_
      refine lv_bipush (v := 119) hx hb dX3_fitsEvent_29 (by decide) ?_
      refine lv_icmp_eq (x := p1) (y := 119) (tgt := 46) hx hb dX3_fitsEvent_31 (by decide) (fun (c3 : p1 = 119) => ?_) (fun (c3 : ¬ (p1 = 119)) => ?_)
      · skip
        refine lv_iconst (v := 1) hx hb dX3_fitsEvent_46 (by decide) ?_
        refine lv_goto (tgt := 51) hx hb dX3_fitsEvent_47 (by decide) ?_
        have er : r_X3_fitsEvent p0 p1 = 1 := by rw [r_X3_fitsEvent, if_pos c1, if_neg c2, if_pos c3]
        exact k_zret kx hK hP hD hS (u := ()) rfl er.symm kb1 dX3_fitsEvent_51
      · skip
        refine lv_iload_n hx hb dX3_fitsEvent_34 rfl (lv_at hl 1 rfl) ?_
        refine lv_bipush (v := 49) hx hb dX3_fitsEvent_35 (by decide) ?_
        refine lv_icmp_lt (x := p1) (y := 49) (tgt := 50) hx hb dX3_fitsEvent_37 (by decide) (fun (c4 : p1 < 49) => ?_) (fun (c4 : ¬ (p1 < 49)) => ?_)
        · skip
          refine lv_iconst (v := 0) hx hb dX3_fitsEvent_50 (by decide) ?_
          have er : r_X3_fitsEvent p0 p1 = 0 := by rw [r_X3_fitsEvent, if_pos c1, if_neg c2, if_neg c3, if_pos c4]
          exact k_zret kx hK hP hD hS (u := ()) rfl er.symm kb0 dX3_fitsEvent_51
        · skip
          refine lv_iload_n hx hb dX3_fitsEvent_40 rfl (lv_at hl 1 rfl) ?_
          refine lv_bipush (v := 57) hx hb dX3_fitsEvent_41 (by decide) ?_
          refine lv_icmp_gt (x := p1) (y := 57) (tgt := 50) hx hb dX3_fitsEvent_43 (by decide) (fun (c5 : 57 < p1) => ?_) (fun (c5 : ¬ (57 < p1)) => ?_)
          · skip
            refine lv_iconst (v := 0) hx hb dX3_fitsEvent_50 (by decide) ?_
            have er : r_X3_fitsEvent p0 p1 = 0 := by rw [r_X3_fitsEvent, if_pos c1, if_neg c2, if_neg c3, if_neg c4, if_pos c5]
            exact k_zret kx hK hP hD hS (u := ()) rfl er.symm kb0 dX3_fitsEvent_51
          · skip
            refine lv_iconst (v := 1) hx hb dX3_fitsEvent_46 (by decide) ?_
            refine lv_goto (tgt := 51) hx hb dX3_fitsEvent_47 (by decide) ?_
            have er : r_X3_fitsEvent p0 p1 = 1 := by rw [r_X3_fitsEvent, if_pos c1, if_neg c2, if_neg c3, if_neg c4, if_neg c5]
            exact k_zret kx hK hP hD hS (u := ()) rfl er.symm kb1 dX3_fitsEvent_51
  · skip
    refine lv_iload_n hx hb dX3_fitsEvent_4 rfl (lv_at hl 1 rfl) ?_
    refine lv_bipush (v := 48) hx hb dX3_fitsEvent_5 (by decide) ?_
    refine lv_icmp_eq (x := p1) (y := 48) (tgt := 16) hx hb dX3_fitsEvent_7 (by decide) (fun (c6 : p1 = 48) => ?_) (fun (c6 : ¬ (p1 = 48)) => ?_)
    · skip
      refine lv_iconst (v := 1) hx hb dX3_fitsEvent_16 (by decide) ?_
      refine lv_goto (tgt := 21) hx hb dX3_fitsEvent_17 (by decide) ?_
      have er : r_X3_fitsEvent p0 p1 = 1 := by rw [r_X3_fitsEvent, if_neg c1, if_pos c6]
      exact k_zret kx hK hP hD hS (u := ()) rfl er.symm kb1 dX3_fitsEvent_21
    · skip
      refine lv_iload_n hx hb dX3_fitsEvent_10 rfl (lv_at hl 1 rfl) ?_
      refine lv_bipush (v := 49) hx hb dX3_fitsEvent_11 (by decide) ?_
      refine lv_icmp_ne (x := p1) (y := 49) (tgt := 20) hx hb dX3_fitsEvent_13 (by decide) (fun (c7 : ¬ (p1 = 49)) => ?_) (fun (c7 : p1 = 49) => ?_)
      · skip
        refine lv_iconst (v := 0) hx hb dX3_fitsEvent_20 (by decide) ?_
        have er : r_X3_fitsEvent p0 p1 = 0 := by rw [r_X3_fitsEvent, if_neg c1, if_neg c6, if_neg c7]
        exact k_zret kx hK hP hD hS (u := ()) rfl er.symm kb0 dX3_fitsEvent_21
      · skip
        refine lv_iconst (v := 1) hx hb dX3_fitsEvent_16 (by decide) ?_
        refine lv_goto (tgt := 21) hx hb dX3_fitsEvent_17 (by decide) ?_
        have er : r_X3_fitsEvent p0 p1 = 1 := by rw [r_X3_fitsEvent, if_neg c1, if_neg c6, if_pos c7]
        exact k_zret kx hK hP hD hS (u := ()) rfl er.symm kb1 dX3_fitsEvent_21
theorem kbr_X3_fitsEvent (p0 : Int32) (p1 : Int32) : kb (r_X3_fitsEvent p0 p1) := by
  unfold r_X3_fitsEvent
  repeat' split
  all_goals first | exact kb0 | exact kb1

def l_X3_faultPlace_1_r (L : Nat) (sg : Nat → Int32) : Nat → Nat → Int32 → Int32
  | 0, j1, ev_1 => if nI L < 7 then (nI L) else if ev_1 = 0 then (-9) else nI L
  | n1 + 1, j1, ev_1 => if 7 ≤ nI j1 then (if (r_X3_fitsEvent ev_1 (sg j1)) = 0 then (nI j1) else if nI j1 < 7 then (l_X3_faultPlace_1_r L sg n1 (j1 + 1) 0) else if sg j1 = 100 then (l_X3_faultPlace_1_r L sg n1 (j1 + 1) 1) else if sg j1 = 119 then (l_X3_faultPlace_1_r L sg n1 (j1 + 1) 1) else l_X3_faultPlace_1_r L sg n1 (j1 + 1) 0) else if (r_X3_fitsHead (nI j1) (sg j1)) = 0 then (nI j1) else if nI j1 < 7 then (l_X3_faultPlace_1_r L sg n1 (j1 + 1) 0) else if sg j1 = 100 then (l_X3_faultPlace_1_r L sg n1 (j1 + 1) 1) else if sg j1 = 119 then (l_X3_faultPlace_1_r L sg n1 (j1 + 1) 1) else l_X3_faultPlace_1_r L sg n1 (j1 + 1) 0
def r_X3_faultPlace (L : Nat) (sg : Nat → Int32) : Int32 := l_X3_faultPlace_1_r L sg L 0 0
set_option maxHeartbeats 4000000 in
set_option maxRecDepth 100000 in
theorem c_X3_faultPlace (l : Launch) (G : kG) (L : Nat) (sg : Nat → Int32) (h0 : Nat) (h1 : Nat) (hL : L ≤ 70) : cG l G yX3_faultPlace cX3_faultPlace 4 (some .int) 1 [.ref h0] ([(h0, .inr (3, cX (kc (nI L)) h1)), (h1, .inl (G.2.1, 70, .inl sg))]) (qI G (fun (r : Int32) (_ : Unit) => r = r_X3_faultPlace L sg) (fun _ => [(h0, .inr (3, cX (kc (nI L)) h1)), (h1, .inl (G.2.1, 70, .inl sg))])) := by
  refine kintro (by decide) (Nat.le_of_ble_eq_true rfl) ?_
  intro p e s m args below meth c A ls kx hK hP hD hS hA hl
  have kx : kX p s m args meth c cX3_faultPlace 4 (some .int) RX3 := kx
  have hx := kx.1
  have hb := kx.2.1
  have hown := kx.2.2.2.2.1
  have ht := kx.2.2.2.2.2.2
  have hl : lv_has ls 4 [(0, .ref h0)] := hl
  refine lv_iconst (v := 0) hx hb dX3_faultPlace_0 (by decide) ?_
  refine lv_istore_n (lv' := [(1, .int 0), (0, .ref h0)]) hx hb dX3_faultPlace_1 rfl hl (by decide) rfl (fun ls1 hl1 => ?_)
  refine lv_iconst (v := 0) hx hb dX3_faultPlace_2 (by decide) ?_
  refine lv_istore_n (lv' := [(2, .int 0), (1, .int 0), (0, .ref h0)]) hx hb dX3_faultPlace_3 rfl hl1 (by decide) rfl (fun ls2 hl2 => ?_)
  have lp1 : ∀ (n1 j1 : Nat) (ev_1 : Int32), j1 + n1 = L → (hr_1 : r_X3_faultPlace L sg = l_X3_faultPlace_1_r L sg n1 j1 ev_1) → ∀ (H : Heap) (locs : List Loc) (ls : Array Slot), va_P G.1 vwCl ([(h0, .inr (3, cX (kc (nI L)) h1)), (h1, .inl (G.2.1, 70, .inl sg))]) H → va_D A ([(h0, .inr (3, cX (kc (nI L)) h1)), (h1, .inl (G.2.1, 70, .inl sg))]) → va_S A s.heap H locs → lv_has ls 4 [(0, .ref h0), (1, .int ev_1), (2, .int (nI j1))] → W p l e (kr 1) s m args below meth c H locs 0 0 (MQ below (qI G (fun (r : Int32) (_ : Unit) => r = r_X3_faultPlace L sg) (fun _ => [(h0, .inr (3, cX (kc (nI L)) h1)), (h1, .inl (G.2.1, 70, .inl sg))]) A) args s 0 0 A) (F0 m 4 ls []) := by
    intro n1
    induction n1 with
    | zero =>
      intro j1 ev_1 hj1 hr_1 H3 locs3 ls3 hP3 hD3 hS3 hl3
      refine lv_iload_n hx hb dX3_faultPlace_4 rfl (lv_at hl3 2 rfl) ?_
      refine lv_aload_n hx hb dX3_faultPlace_5 rfl (lv_at hl3 0 rfl) ?_
      refine va_get (ci := 3) (v := .int (nI L)) (C := RX3) (T := TX3) (N := 2) hx hb ht inX3 hown hK.1 hP3 0 rfl rfl 1 (by decide) (ht _ q_54) (fun _ h9 => h9) rfl dX3_faultPlace_6 ?_
      refine lv_icmp_ge (x := nI j1) (y := nI L) (tgt := 82) hx hb dX3_faultPlace_9 (by decide) (fun (c1 : nI L ≤ nI j1) => ?_) (fun (c1 : ¬ (nI L ≤ nI j1)) => absurd (kle_z rfl hj1) c1)
      refine lv_aload_n hx hb dX3_faultPlace_82 rfl (lv_at hl3 0 rfl) ?_
      refine va_get (ci := 3) (v := .int (nI L)) (C := RX3) (T := TX3) (N := 2) hx hb ht inX3 hown hK.1 hP3 0 rfl rfl 1 (by decide) (ht _ q_54) (fun _ h9 => h9) rfl dX3_faultPlace_83 ?_
      refine lv_bipush (v := 7) hx hb dX3_faultPlace_86 (by decide) ?_
      refine lv_icmp_lt (x := nI L) (y := 7) (tgt := 95) hx hb dX3_faultPlace_88 (by decide) (fun (c2 : nI L < 7) => ?_) (fun (c2 : ¬ (nI L < 7)) => ?_)
      · skip
        refine lv_aload_n hx hb dX3_faultPlace_95 rfl (lv_at hl3 0 rfl) ?_
        refine va_get (ci := 3) (v := .int (nI L)) (C := RX3) (T := TX3) (N := 2) hx hb ht inX3 hown hK.1 hP3 0 rfl rfl 1 (by decide) (ht _ q_54) (fun _ h9 => h9) rfl dX3_faultPlace_96 ?_
        refine lv_goto (tgt := 104) hx hb dX3_faultPlace_99 (by decide) ?_
        have er : r_X3_faultPlace L sg = nI L := by rw [hr_1, l_X3_faultPlace_1_r, if_pos c2]
        exact k_iret kx hK hP3 hD3 hS3 (u := ()) rfl er.symm dX3_faultPlace_104
      · skip
        refine lv_iload_n hx hb dX3_faultPlace_91 rfl (lv_at hl3 1 rfl) ?_
        refine lv_if_eq (x := ev_1) (tgt := 102) hx hb dX3_faultPlace_92 (by decide) (fun (c3 : ev_1 = 0) => ?_) (fun (c3 : ¬ (ev_1 = 0)) => ?_)
        · skip
          refine lv_bipush (v := (-9)) hx hb dX3_faultPlace_102 (by decide) ?_
          have er : r_X3_faultPlace L sg = (-9) := by rw [hr_1, l_X3_faultPlace_1_r, if_neg c2, if_pos c3]
          exact k_iret kx hK hP3 hD3 hS3 (u := ()) rfl er.symm dX3_faultPlace_104
        · skip
          refine lv_aload_n hx hb dX3_faultPlace_95 rfl (lv_at hl3 0 rfl) ?_
          refine va_get (ci := 3) (v := .int (nI L)) (C := RX3) (T := TX3) (N := 2) hx hb ht inX3 hown hK.1 hP3 0 rfl rfl 1 (by decide) (ht _ q_54) (fun _ h9 => h9) rfl dX3_faultPlace_96 ?_
          refine lv_goto (tgt := 104) hx hb dX3_faultPlace_99 (by decide) ?_
          have er : r_X3_faultPlace L sg = nI L := by rw [hr_1, l_X3_faultPlace_1_r, if_neg c2, if_neg c3]
          exact k_iret kx hK hP3 hD3 hS3 (u := ()) rfl er.symm dX3_faultPlace_104
    | succ n1 ih1 =>
      intro j1 ev_1 hj1 hr_1 H3 locs3 ls3 hP3 hD3 hS3 hl3
      refine lv_iload_n hx hb dX3_faultPlace_4 rfl (lv_at hl3 2 rfl) ?_
      refine lv_aload_n hx hb dX3_faultPlace_5 rfl (lv_at hl3 0 rfl) ?_
      refine va_get (ci := 3) (v := .int (nI L)) (C := RX3) (T := TX3) (N := 2) hx hb ht inX3 hown hK.1 hP3 0 rfl rfl 1 (by decide) (ht _ q_54) (fun _ h9 => h9) rfl dX3_faultPlace_6 ?_
      refine lv_icmp_ge (x := nI j1) (y := nI L) (tgt := 82) hx hb dX3_faultPlace_9 (by decide) (fun (c4 : nI L ≤ nI j1) => absurd c4 (kle_s rfl hj1 (by omega))) (fun (c4 : ¬ (nI L ≤ nI j1)) => ?_)
      refine lv_iload_n hx hb dX3_faultPlace_12 rfl (lv_at hl3 2 rfl) ?_
      refine lv_bipush (v := 70) hx hb dX3_faultPlace_13 (by decide) ?_
      refine lv_icmp_ge (x := nI j1) (y := 70) (tgt := 82) hx hb dX3_faultPlace_15 (by decide) (fun (c5 : 70 ≤ nI j1) => absurd c5 (knle (N := 70) rfl (by omega) (by decide))) (fun (c5 : ¬ (70 ≤ nI j1)) => ?_)
      refine lv_aload_n hx hb dX3_faultPlace_18 rfl (lv_at hl3 0 rfl) ?_
      refine va_get (ci := 3) (v := .ref h1) (C := RX3) (T := TX3) (N := 2) hx hb ht inX3 hown hK.1 hP3 0 rfl rfl 0 (by decide) (ht _ q_53) (fun _ h9 => h9) rfl dX3_faultPlace_19 ?_
      refine lv_iload_n hx hb dX3_faultPlace_22 rfl (lv_at hl3 2 rfl) ?_
      refine k_iald (v := (sg j1)) kx hK hP3 1 rfl j1 rfl (by omega) (by decide) rfl dX3_faultPlace_23 ?_
      refine lv_istore_n (lv' := [(3, .int (sg j1)), (0, .ref h0), (1, .int ev_1), (2, .int (nI j1))]) hx hb dX3_faultPlace_24 rfl hl3 (by decide) rfl (fun ls4 hl4 => ?_)
      refine lv_iload_n hx hb dX3_faultPlace_25 rfl (lv_at hl4 3 rfl) ?_
      refine lv_bipush (v := 7) hx hb dX3_faultPlace_26 (by decide) ?_
      refine lv_icmp_ge (x := nI j1) (y := 7) (tgt := 42) hx hb dX3_faultPlace_28 (by decide) (fun (c6 : 7 ≤ nI j1) => ?_) (fun (c6 : ¬ (7 ≤ nI j1)) => ?_)
      · skip
        refine lv_iload_n hx hb dX3_faultPlace_42 rfl (lv_at hl4 2 rfl) ?_
        refine lv_iload_n hx hb dX3_faultPlace_43 rfl (lv_at hl4 0 rfl) ?_
        refine k_calli (kRunS (As := [.int ev_1, .int (sg j1)]) (rest := []) kx (c_X3_fitsEvent l G ev_1 (sg j1)) q_316 q_314 q_30 q_315 nX3_fitsEvent ⟨Nat.le_of_ble_eq_true rfl, Nat.le_of_ble_eq_true rfl⟩ hK hP3 hD3 (kCtx_nil _) rfl hl4.1 (Nat.le_of_ble_eq_true rfl) dX3_faultPlace_44 ⟨Nat.zero_le _, Nat.zero_le _⟩) hP3 hD3 hS3 hA (kCtx_nil _) (fun _ => rfl) (fun r7 _ H5 locs5 hw hP5 hD5 hS5 => ?_)
        have hr7 : r_X3_fitsEvent ev_1 (sg j1) = r7 := (show r7 = r_X3_fitsEvent ev_1 (sg j1) from hw).symm
        have hP6 : va_P G.1 vwCl ([(h0, .inr (3, cX (kc (nI L)) h1)), (h1, .inl (G.2.1, 70, .inl sg))]) H5 := hP5
        have hD7 : va_D A ([(h0, .inr (3, cX (kc (nI L)) h1)), (h1, .inl (G.2.1, 70, .inl sg))]) := hD5
        refine lv_if_ne (x := r7) (tgt := 52) hx hb dX3_faultPlace_47 (by decide) (fun (c8 : ¬ (r7 = 0)) => ?_) (fun (c8 : r7 = 0) => ?_)
        · skip
          refine lv_iload_n hx hb dX3_faultPlace_52 rfl (lv_at hl4 3 rfl) ?_
          refine lv_bipush (v := 7) hx hb dX3_faultPlace_53 (by decide) ?_
          refine lv_icmp_lt (x := nI j1) (y := 7) (tgt := 74) hx hb dX3_faultPlace_55 (by decide) (fun (c9 : nI j1 < 7) => ?_) (fun (c9 : ¬ (nI j1 < 7)) => ?_)
          · skip
            refine lv_iconst (v := 0) hx hb dX3_faultPlace_74 (by decide) ?_
            refine lv_istore_n (lv' := [(1, .int 0), (3, .int (sg j1)), (0, .ref h0), (2, .int (nI j1))]) hx hb dX3_faultPlace_75 rfl hl4 (by decide) rfl (fun ls8 hl8 => ?_)
            refine lv_iinc (v := nI (j1 + 1)) (lv' := [(2, .int (nI (j1 + 1))), (1, .int 0), (3, .int (sg j1)), (0, .ref h0)]) hx hb dX3_faultPlace_76 hl8 (k := 3) rfl (nI_1 j1) (by decide) rfl (fun ls9 hl9 => ?_)
            refine lv_goto (tgt := 4) hx hb dX3_faultPlace_79 (by decide) ?_
            subst hr7
            have gr : r_X3_faultPlace L sg = l_X3_faultPlace_1_r L sg n1 (j1 + 1) 0 := by rw [hr_1, l_X3_faultPlace_1_r, if_pos c6, if_neg c8, if_pos c9]
            exact ih1 (j1 + 1) 0 (by omega) gr _ _ _ hP6 hD7 hS5 (lv_sub hl9 [3, 1, 0] rfl)
          · skip
            refine lv_iload_n hx hb dX3_faultPlace_58 rfl (lv_at hl4 0 rfl) ?_
            refine lv_bipush (v := 100) hx hb dX3_faultPlace_59 (by decide) ?_
            refine lv_icmp_eq (x := sg j1) (y := 100) (tgt := 70) hx hb dX3_faultPlace_61 (by decide) (fun (c10 : sg j1 = 100) => ?_) (fun (c10 : ¬ (sg j1 = 100)) => ?_)
            · skip
              refine lv_iconst (v := 1) hx hb dX3_faultPlace_70 (by decide) ?_
              refine lv_goto (tgt := 75) hx hb dX3_faultPlace_71 (by decide) ?_
              refine lv_istore_n (lv' := [(1, .int 1), (3, .int (sg j1)), (0, .ref h0), (2, .int (nI j1))]) hx hb dX3_faultPlace_75 rfl hl4 (by decide) rfl (fun ls10 hl10 => ?_)
              refine lv_iinc (v := nI (j1 + 1)) (lv' := [(2, .int (nI (j1 + 1))), (1, .int 1), (3, .int (sg j1)), (0, .ref h0)]) hx hb dX3_faultPlace_76 hl10 (k := 3) rfl (nI_1 j1) (by decide) rfl (fun ls11 hl11 => ?_)
              refine lv_goto (tgt := 4) hx hb dX3_faultPlace_79 (by decide) ?_
              subst hr7
              have gr : r_X3_faultPlace L sg = l_X3_faultPlace_1_r L sg n1 (j1 + 1) 1 := by rw [hr_1, l_X3_faultPlace_1_r, if_pos c6, if_neg c8, if_neg c9, if_pos c10]
              exact ih1 (j1 + 1) 1 (by omega) gr _ _ _ hP6 hD7 hS5 (lv_sub hl11 [3, 1, 0] rfl)
            · skip
              refine lv_iload_n hx hb dX3_faultPlace_64 rfl (lv_at hl4 0 rfl) ?_
              refine lv_bipush (v := 119) hx hb dX3_faultPlace_65 (by decide) ?_
              refine lv_icmp_ne (x := sg j1) (y := 119) (tgt := 74) hx hb dX3_faultPlace_67 (by decide) (fun (c11 : ¬ (sg j1 = 119)) => ?_) (fun (c11 : sg j1 = 119) => ?_)
              · skip
                refine lv_iconst (v := 0) hx hb dX3_faultPlace_74 (by decide) ?_
                refine lv_istore_n (lv' := [(1, .int 0), (3, .int (sg j1)), (0, .ref h0), (2, .int (nI j1))]) hx hb dX3_faultPlace_75 rfl hl4 (by decide) rfl (fun ls12 hl12 => ?_)
                refine lv_iinc (v := nI (j1 + 1)) (lv' := [(2, .int (nI (j1 + 1))), (1, .int 0), (3, .int (sg j1)), (0, .ref h0)]) hx hb dX3_faultPlace_76 hl12 (k := 3) rfl (nI_1 j1) (by decide) rfl (fun ls13 hl13 => ?_)
                refine lv_goto (tgt := 4) hx hb dX3_faultPlace_79 (by decide) ?_
                subst hr7
                have gr : r_X3_faultPlace L sg = l_X3_faultPlace_1_r L sg n1 (j1 + 1) 0 := by rw [hr_1, l_X3_faultPlace_1_r, if_pos c6, if_neg c8, if_neg c9, if_neg c10, if_neg c11]
                exact ih1 (j1 + 1) 0 (by omega) gr _ _ _ hP6 hD7 hS5 (lv_sub hl13 [3, 1, 0] rfl)
              · skip
                refine lv_iconst (v := 1) hx hb dX3_faultPlace_70 (by decide) ?_
                refine lv_goto (tgt := 75) hx hb dX3_faultPlace_71 (by decide) ?_
                refine lv_istore_n (lv' := [(1, .int 1), (3, .int (sg j1)), (0, .ref h0), (2, .int (nI j1))]) hx hb dX3_faultPlace_75 rfl hl4 (by decide) rfl (fun ls14 hl14 => ?_)
                refine lv_iinc (v := nI (j1 + 1)) (lv' := [(2, .int (nI (j1 + 1))), (1, .int 1), (3, .int (sg j1)), (0, .ref h0)]) hx hb dX3_faultPlace_76 hl14 (k := 3) rfl (nI_1 j1) (by decide) rfl (fun ls15 hl15 => ?_)
                refine lv_goto (tgt := 4) hx hb dX3_faultPlace_79 (by decide) ?_
                subst hr7
                have gr : r_X3_faultPlace L sg = l_X3_faultPlace_1_r L sg n1 (j1 + 1) 1 := by rw [hr_1, l_X3_faultPlace_1_r, if_pos c6, if_neg c8, if_neg c9, if_neg c10, if_pos c11]
                exact ih1 (j1 + 1) 1 (by omega) gr _ _ _ hP6 hD7 hS5 (lv_sub hl15 [3, 1, 0] rfl)
        · skip
          refine lv_iload_n hx hb dX3_faultPlace_50 rfl (lv_at hl4 3 rfl) ?_
          have er : r_X3_faultPlace L sg = nI j1 := by rw [hr_1, l_X3_faultPlace_1_r]; (try rw [hr7]); rw [if_pos c6, if_pos c8]
          exact k_iret kx hK hP6 hD7 hS5 (u := ()) rfl er.symm dX3_faultPlace_51
      · skip
        refine lv_iload_n hx hb dX3_faultPlace_31 rfl (lv_at hl4 3 rfl) ?_
        refine lv_iload_n hx hb dX3_faultPlace_32 rfl (lv_at hl4 0 rfl) ?_
        refine k_calli (kRunS (As := [.int (nI j1), .int (sg j1)]) (rest := []) kx (c_X3_fitsHead l G (nI j1) (sg j1)) q_313 q_311 q_30 q_312 nX3_fitsHead ⟨Nat.le_of_ble_eq_true rfl, Nat.le_of_ble_eq_true rfl⟩ hK hP3 hD3 (kCtx_nil _) rfl hl4.1 (Nat.le_of_ble_eq_true rfl) dX3_faultPlace_33 ⟨Nat.zero_le _, Nat.zero_le _⟩) hP3 hD3 hS3 hA (kCtx_nil _) (fun _ => rfl) (fun r12 _ H16 locs16 hw hP16 hD16 hS16 => ?_)
        have hr12 : r_X3_fitsHead (nI j1) (sg j1) = r12 := (show r12 = r_X3_fitsHead (nI j1) (sg j1) from hw).symm
        have hP17 : va_P G.1 vwCl ([(h0, .inr (3, cX (kc (nI L)) h1)), (h1, .inl (G.2.1, 70, .inl sg))]) H16 := hP16
        have hD18 : va_D A ([(h0, .inr (3, cX (kc (nI L)) h1)), (h1, .inl (G.2.1, 70, .inl sg))]) := hD16
        refine lv_if_ne (x := r12) (tgt := 52) hx hb dX3_faultPlace_36 (by decide) (fun (c13 : ¬ (r12 = 0)) => ?_) (fun (c13 : r12 = 0) => ?_)
        · skip
          refine lv_iload_n hx hb dX3_faultPlace_52 rfl (lv_at hl4 3 rfl) ?_
          refine lv_bipush (v := 7) hx hb dX3_faultPlace_53 (by decide) ?_
          refine lv_icmp_lt (x := nI j1) (y := 7) (tgt := 74) hx hb dX3_faultPlace_55 (by decide) (fun (c14 : nI j1 < 7) => ?_) (fun (c14 : ¬ (nI j1 < 7)) => ?_)
          · skip
            refine lv_iconst (v := 0) hx hb dX3_faultPlace_74 (by decide) ?_
            refine lv_istore_n (lv' := [(1, .int 0), (3, .int (sg j1)), (0, .ref h0), (2, .int (nI j1))]) hx hb dX3_faultPlace_75 rfl hl4 (by decide) rfl (fun ls19 hl19 => ?_)
            refine lv_iinc (v := nI (j1 + 1)) (lv' := [(2, .int (nI (j1 + 1))), (1, .int 0), (3, .int (sg j1)), (0, .ref h0)]) hx hb dX3_faultPlace_76 hl19 (k := 3) rfl (nI_1 j1) (by decide) rfl (fun ls20 hl20 => ?_)
            refine lv_goto (tgt := 4) hx hb dX3_faultPlace_79 (by decide) ?_
            subst hr12
            have gr : r_X3_faultPlace L sg = l_X3_faultPlace_1_r L sg n1 (j1 + 1) 0 := by rw [hr_1, l_X3_faultPlace_1_r, if_neg c6, if_neg c13, if_pos c14]
            exact ih1 (j1 + 1) 0 (by omega) gr _ _ _ hP17 hD18 hS16 (lv_sub hl20 [3, 1, 0] rfl)
          · skip
            refine lv_iload_n hx hb dX3_faultPlace_58 rfl (lv_at hl4 0 rfl) ?_
            refine lv_bipush (v := 100) hx hb dX3_faultPlace_59 (by decide) ?_
            refine lv_icmp_eq (x := sg j1) (y := 100) (tgt := 70) hx hb dX3_faultPlace_61 (by decide) (fun (c15 : sg j1 = 100) => ?_) (fun (c15 : ¬ (sg j1 = 100)) => ?_)
            · skip
              refine lv_iconst (v := 1) hx hb dX3_faultPlace_70 (by decide) ?_
              refine lv_goto (tgt := 75) hx hb dX3_faultPlace_71 (by decide) ?_
              refine lv_istore_n (lv' := [(1, .int 1), (3, .int (sg j1)), (0, .ref h0), (2, .int (nI j1))]) hx hb dX3_faultPlace_75 rfl hl4 (by decide) rfl (fun ls21 hl21 => ?_)
              refine lv_iinc (v := nI (j1 + 1)) (lv' := [(2, .int (nI (j1 + 1))), (1, .int 1), (3, .int (sg j1)), (0, .ref h0)]) hx hb dX3_faultPlace_76 hl21 (k := 3) rfl (nI_1 j1) (by decide) rfl (fun ls22 hl22 => ?_)
              refine lv_goto (tgt := 4) hx hb dX3_faultPlace_79 (by decide) ?_
              subst hr12
              have gr : r_X3_faultPlace L sg = l_X3_faultPlace_1_r L sg n1 (j1 + 1) 1 := by rw [hr_1, l_X3_faultPlace_1_r, if_neg c6, if_neg c13, if_neg c14, if_pos c15]
              exact ih1 (j1 + 1) 1 (by omega) gr _ _ _ hP17 hD18 hS16 (lv_sub hl22 [3, 1, 0] rfl)
            · skip
              refine lv_iload_n hx hb dX3_faultPlace_64 rfl (lv_at hl4 0 rfl) ?_
              refine lv_bipush (v := 119) hx hb dX3_faultPlace_65 (by decide) ?_
              refine lv_icmp_ne (x := sg j1) (y := 119) (tgt := 74) hx hb dX3_faultPlace_67 (by decide) (fun (c16 : ¬ (sg j1 = 119)) => ?_) (fun (c16 : sg j1 = 119) => ?_)
              · skip
                refine lv_iconst (v := 0) hx hb dX3_faultPlace_74 (by decide) ?_
                refine lv_istore_n (lv' := [(1, .int 0), (3, .int (sg j1)), (0, .ref h0), (2, .int (nI j1))]) hx hb dX3_faultPlace_75 rfl hl4 (by decide) rfl (fun ls23 hl23 => ?_)
                refine lv_iinc (v := nI (j1 + 1)) (lv' := [(2, .int (nI (j1 + 1))), (1, .int 0), (3, .int (sg j1)), (0, .ref h0)]) hx hb dX3_faultPlace_76 hl23 (k := 3) rfl (nI_1 j1) (by decide) rfl (fun ls24 hl24 => ?_)
                refine lv_goto (tgt := 4) hx hb dX3_faultPlace_79 (by decide) ?_
                subst hr12
                have gr : r_X3_faultPlace L sg = l_X3_faultPlace_1_r L sg n1 (j1 + 1) 0 := by rw [hr_1, l_X3_faultPlace_1_r, if_neg c6, if_neg c13, if_neg c14, if_neg c15, if_neg c16]
                exact ih1 (j1 + 1) 0 (by omega) gr _ _ _ hP17 hD18 hS16 (lv_sub hl24 [3, 1, 0] rfl)
              · skip
                refine lv_iconst (v := 1) hx hb dX3_faultPlace_70 (by decide) ?_
                refine lv_goto (tgt := 75) hx hb dX3_faultPlace_71 (by decide) ?_
                refine lv_istore_n (lv' := [(1, .int 1), (3, .int (sg j1)), (0, .ref h0), (2, .int (nI j1))]) hx hb dX3_faultPlace_75 rfl hl4 (by decide) rfl (fun ls25 hl25 => ?_)
                refine lv_iinc (v := nI (j1 + 1)) (lv' := [(2, .int (nI (j1 + 1))), (1, .int 1), (3, .int (sg j1)), (0, .ref h0)]) hx hb dX3_faultPlace_76 hl25 (k := 3) rfl (nI_1 j1) (by decide) rfl (fun ls26 hl26 => ?_)
                refine lv_goto (tgt := 4) hx hb dX3_faultPlace_79 (by decide) ?_
                subst hr12
                have gr : r_X3_faultPlace L sg = l_X3_faultPlace_1_r L sg n1 (j1 + 1) 1 := by rw [hr_1, l_X3_faultPlace_1_r, if_neg c6, if_neg c13, if_neg c14, if_neg c15, if_pos c16]
                exact ih1 (j1 + 1) 1 (by omega) gr _ _ _ hP17 hD18 hS16 (lv_sub hl26 [3, 1, 0] rfl)
        · skip
          refine lv_goto (tgt := 50) hx hb dX3_faultPlace_39 (by decide) ?_
          refine lv_iload_n hx hb dX3_faultPlace_50 rfl (lv_at hl4 3 rfl) ?_
          have er : r_X3_faultPlace L sg = nI j1 := by rw [hr_1, l_X3_faultPlace_1_r]; (try rw [hr12]); rw [if_neg c6, if_pos c13]
          exact k_iret kx hK hP17 hD18 hS16 (u := ()) rfl er.symm dX3_faultPlace_51
  have gr : r_X3_faultPlace L sg = l_X3_faultPlace_1_r L sg L 0 0 := by rw [r_X3_faultPlace]
  exact lp1 L 0 0 (by omega) gr _ _ _ hP hD hS (lv_sub hl2 [2, 1, 0] rfl)

set_option maxHeartbeats 4000000 in
set_option maxRecDepth 100000 in
theorem c_X1_add (l : Launch) (G : kG) (z0 : Nat) (tk : Nat → Int32) (en : Nat → Int32) (mo : Nat → Int32) (h0 : Nat) (h1 : Nat) (h2 : Nat) (h3 : Nat) (p0 : Int32) (p1 : Int32) (p2 : Int32) (hz : z0 < 6) : cG l G yX1_add cX1_add 4 none 0 [.ref h0, .int p0, .int p1, .int p2] ([(h0, .inr (1, cS (kc (nI z0)) h1 h2 h3)), (h1, .inl (G.2.1, 6, .inl tk)), (h2, .inl (G.2.1, 6, .inl en)), (h3, .inl (G.2.1, 6, .inl mo))]) (qV G (fun _ : Unit => True) (fun _ => [(h0, .inr (1, cS (kc ((nI z0) + 1)) h1 h2 h3)), (h1, .inl (G.2.1, 6, .inl (upd tk z0 p0))), (h2, .inl (G.2.1, 6, .inl (upd en z0 p1))), (h3, .inl (G.2.1, 6, .inl (upd mo z0 p2)))])) := by
  refine kintro (by decide) (Nat.le_of_ble_eq_true rfl) ?_
  intro p e s m args below meth c A ls kx hK hP hD hS hA hl
  have kx : kX p s m args meth c cX1_add 4 none RX1 := kx
  have hx := kx.1
  have hb := kx.2.1
  have hown := kx.2.2.2.2.1
  have ht := kx.2.2.2.2.2.2
  have hl : lv_has ls 4 [(0, .ref h0), (1, .int p0), (2, .int p1), (3, .int p2)] := hl
  refine lv_aload_n hx hb dX1_add_0 rfl (lv_at hl 0 rfl) ?_
  refine va_get (ci := 1) (v := .int (nI z0)) (C := RX1) (T := TX1) (N := 4) hx hb ht inX1 hown hK.1 hP 0 rfl rfl 3 (by decide) (ht _ q_251) (fun _ h9 => h9) rfl dX1_add_1 ?_
  refine lv_if_lt (x := nI z0) (tgt := 56) hx hb dX1_add_4 (by decide) (fun (c1 : nI z0 < 0) => absurd c1 (nI_pos (by omega))) (fun (c1 : ¬ (nI z0 < 0)) => ?_)
  refine lv_aload_n hx hb dX1_add_7 rfl (lv_at hl 0 rfl) ?_
  refine va_get (ci := 1) (v := .int (nI z0)) (C := RX1) (T := TX1) (N := 4) hx hb ht inX1 hown hK.1 hP 0 rfl rfl 3 (by decide) (ht _ q_251) (fun _ h9 => h9) rfl dX1_add_8 ?_
  refine lv_bipush (v := 6) hx hb dX1_add_11 (by decide) ?_
  refine lv_icmp_ge (x := nI z0) (y := 6) (tgt := 56) hx hb dX1_add_13 (by decide) (fun (c2 : 6 ≤ nI z0) => absurd c2 (knle (N := 6) rfl hz (by decide))) (fun (c2 : ¬ (6 ≤ nI z0)) => ?_)
  refine lv_aload_n hx hb dX1_add_16 rfl (lv_at hl 0 rfl) ?_
  refine va_get (ci := 1) (v := .ref h1) (C := RX1) (T := TX1) (N := 4) hx hb ht inX1 hown hK.1 hP 0 rfl rfl 0 (by decide) (ht _ q_248) (fun _ h9 => h9) rfl dX1_add_17 ?_
  refine lv_aload_n hx hb dX1_add_20 rfl (lv_at hl 0 rfl) ?_
  refine va_get (ci := 1) (v := .int (nI z0)) (C := RX1) (T := TX1) (N := 4) hx hb ht inX1 hown hK.1 hP 0 rfl rfl 3 (by decide) (ht _ q_251) (fun _ h9 => h9) rfl dX1_add_21 ?_
  refine lv_iload_n hx hb dX1_add_24 rfl (lv_at hl 1 rfl) ?_
  refine k_iast kx hK hP hD hS 1 rfl z0 rfl hz (by decide) dX1_add_25 (fun H1 locs1 hP1 hD1 hS1 => ?_)
  have hP2 : va_P G.1 vwCl ([(h0, .inr (1, cS (kc (nI z0)) h1 h2 h3)), (h1, .inl (G.2.1, 6, .inl (upd tk z0 p0))), (h2, .inl (G.2.1, 6, .inl en)), (h3, .inl (G.2.1, 6, .inl mo))]) H1 := hP1
  have hD3 : va_D A ([(h0, .inr (1, cS (kc (nI z0)) h1 h2 h3)), (h1, .inl (G.2.1, 6, .inl (upd tk z0 p0))), (h2, .inl (G.2.1, 6, .inl en)), (h3, .inl (G.2.1, 6, .inl mo))]) := hD1
  refine lv_aload_n hx hb dX1_add_26 rfl (lv_at hl 0 rfl) ?_
  refine va_get (ci := 1) (v := .ref h2) (C := RX1) (T := TX1) (N := 4) hx hb ht inX1 hown hK.1 hP2 0 rfl rfl 1 (by decide) (ht _ q_249) (fun _ h9 => h9) rfl dX1_add_27 ?_
  refine lv_aload_n hx hb dX1_add_30 rfl (lv_at hl 0 rfl) ?_
  refine va_get (ci := 1) (v := .int (nI z0)) (C := RX1) (T := TX1) (N := 4) hx hb ht inX1 hown hK.1 hP2 0 rfl rfl 3 (by decide) (ht _ q_251) (fun _ h9 => h9) rfl dX1_add_31 ?_
  refine lv_iload_n hx hb dX1_add_34 rfl (lv_at hl 2 rfl) ?_
  refine k_iast kx hK hP2 hD3 hS1 2 rfl z0 rfl hz (by decide) dX1_add_35 (fun H4 locs4 hP4 hD4 hS4 => ?_)
  have hP5 : va_P G.1 vwCl ([(h0, .inr (1, cS (kc (nI z0)) h1 h2 h3)), (h1, .inl (G.2.1, 6, .inl (upd tk z0 p0))), (h2, .inl (G.2.1, 6, .inl (upd en z0 p1))), (h3, .inl (G.2.1, 6, .inl mo))]) H4 := hP4
  have hD6 : va_D A ([(h0, .inr (1, cS (kc (nI z0)) h1 h2 h3)), (h1, .inl (G.2.1, 6, .inl (upd tk z0 p0))), (h2, .inl (G.2.1, 6, .inl (upd en z0 p1))), (h3, .inl (G.2.1, 6, .inl mo))]) := hD4
  refine lv_aload_n hx hb dX1_add_36 rfl (lv_at hl 0 rfl) ?_
  refine va_get (ci := 1) (v := .ref h3) (C := RX1) (T := TX1) (N := 4) hx hb ht inX1 hown hK.1 hP5 0 rfl rfl 2 (by decide) (ht _ q_250) (fun _ h9 => h9) rfl dX1_add_37 ?_
  refine lv_aload_n hx hb dX1_add_40 rfl (lv_at hl 0 rfl) ?_
  refine va_get (ci := 1) (v := .int (nI z0)) (C := RX1) (T := TX1) (N := 4) hx hb ht inX1 hown hK.1 hP5 0 rfl rfl 3 (by decide) (ht _ q_251) (fun _ h9 => h9) rfl dX1_add_41 ?_
  refine lv_iload_n hx hb dX1_add_44 rfl (lv_at hl 3 rfl) ?_
  refine k_iast kx hK hP5 hD6 hS4 3 rfl z0 rfl hz (by decide) dX1_add_45 (fun H7 locs7 hP7 hD7 hS7 => ?_)
  have hP8 : va_P G.1 vwCl ([(h0, .inr (1, cS (kc (nI z0)) h1 h2 h3)), (h1, .inl (G.2.1, 6, .inl (upd tk z0 p0))), (h2, .inl (G.2.1, 6, .inl (upd en z0 p1))), (h3, .inl (G.2.1, 6, .inl (upd mo z0 p2)))]) H7 := hP7
  have hD9 : va_D A ([(h0, .inr (1, cS (kc (nI z0)) h1 h2 h3)), (h1, .inl (G.2.1, 6, .inl (upd tk z0 p0))), (h2, .inl (G.2.1, 6, .inl (upd en z0 p1))), (h3, .inl (G.2.1, 6, .inl (upd mo z0 p2)))]) := hD7
  refine lv_aload_n hx hb dX1_add_46 rfl (lv_at hl 0 rfl) ?_
  refine lv_dup hx hb dX1_add_47 rfl ?_
  refine va_get (ci := 1) (v := .int (nI z0)) (C := RX1) (T := TX1) (N := 4) hx hb ht inX1 hown hK.1 hP8 0 rfl rfl 3 (by decide) (ht _ q_251) (fun _ h9 => h9) rfl dX1_add_48 ?_
  refine lv_iconst (v := 1) hx hb dX1_add_51 (by decide) ?_
  refine lv_iadd hx hb dX1_add_52 ?_
  refine va_put (ci := 1) (v := .int ((nI z0) + 1)) (ty := .int) (C := RX1) (T := TX1) (N := 4) hx hb ht inX1 tyX1 tyX1_ok nmX1 hown hK.1 hP8 hD9 hS7 0 rfl rfl 3 (by decide) (ht _ q_251) (fun _ h9 => h9) rfl (by decide +kernel) rfl rfl (Nat.le_of_ble_eq_true rfl) dX1_add_53 (fun H10 locs10 hP10 hD10 hS10 => ?_)
  have hP11 : va_P G.1 vwCl ([(h0, .inr (1, cS (kc ((nI z0) + 1)) h1 h2 h3)), (h1, .inl (G.2.1, 6, .inl (upd tk z0 p0))), (h2, .inl (G.2.1, 6, .inl (upd en z0 p1))), (h3, .inl (G.2.1, 6, .inl (upd mo z0 p2)))]) H10 := hP10
  have hD12 : va_D A ([(h0, .inr (1, cS (kc ((nI z0) + 1)) h1 h2 h3)), (h1, .inl (G.2.1, 6, .inl (upd tk z0 p0))), (h2, .inl (G.2.1, 6, .inl (upd en z0 p1))), (h3, .inl (G.2.1, 6, .inl (upd mo z0 p2)))]) := hD10
  exact k_vret kx hK hP11 hD12 hS10 (u := ()) rfl trivial dX1_add_56

def l_X1_lastTick_1_r (tk : Nat → Int32) : Nat → Nat → Int32 → Int32
  | 0, j1, la_1 => la_1
  | n1 + 1, j1, la_1 => l_X1_lastTick_1_r tk n1 (j1 + 1) (kMax la_1 (tk j1))
def r_X1_lastTick (z0 : Nat) (tk : Nat → Int32) : Int32 := l_X1_lastTick_1_r tk z0 0 (-1)
set_option maxHeartbeats 4000000 in
set_option maxRecDepth 100000 in
theorem c_X1_lastTick (l : Launch) (G : kG) (z0 : Nat) (tk : Nat → Int32) (en : Nat → Int32) (mo : Nat → Int32) (h0 : Nat) (h1 : Nat) (h2 : Nat) (h3 : Nat) (hz : z0 ≤ 6) : cG l G yX1_lastTick cX1_lastTick 3 (some .int) 1 [.ref h0] ([(h0, .inr (1, cS (kc (nI z0)) h1 h2 h3)), (h1, .inl (G.2.1, 6, .inl tk)), (h2, .inl (G.2.1, 6, .inl en)), (h3, .inl (G.2.1, 6, .inl mo))]) (qI G (fun (r : Int32) (_ : Unit) => r = r_X1_lastTick z0 tk) (fun _ => [(h0, .inr (1, cS (kc (nI z0)) h1 h2 h3)), (h1, .inl (G.2.1, 6, .inl tk)), (h2, .inl (G.2.1, 6, .inl en)), (h3, .inl (G.2.1, 6, .inl mo))])) := by
  refine kintro (by decide) (Nat.le_of_ble_eq_true rfl) ?_
  intro p e s m args below meth c A ls kx hK hP hD hS hA hl
  have kx : kX p s m args meth c cX1_lastTick 3 (some .int) RX1 := kx
  have hx := kx.1
  have hb := kx.2.1
  have hown := kx.2.2.2.2.1
  have ht := kx.2.2.2.2.2.2
  have hl : lv_has ls 3 [(0, .ref h0)] := hl
  refine lv_iconst (v := (-1)) hx hb dX1_lastTick_0 (by decide) ?_
  refine lv_istore_n (lv' := [(1, .int (-1)), (0, .ref h0)]) hx hb dX1_lastTick_1 rfl hl (by decide) rfl (fun ls1 hl1 => ?_)
  refine lv_iconst (v := 0) hx hb dX1_lastTick_2 (by decide) ?_
  refine lv_istore_n (lv' := [(2, .int 0), (1, .int (-1)), (0, .ref h0)]) hx hb dX1_lastTick_3 rfl hl1 (by decide) rfl (fun ls2 hl2 => ?_)
  have lp1 : ∀ (n1 j1 : Nat) (la_1 : Int32), j1 + n1 = z0 → (hr_1 : r_X1_lastTick z0 tk = l_X1_lastTick_1_r tk n1 j1 la_1) → ∀ (H : Heap) (locs : List Loc) (ls : Array Slot), va_P G.1 vwCl ([(h0, .inr (1, cS (kc (nI z0)) h1 h2 h3)), (h1, .inl (G.2.1, 6, .inl tk)), (h2, .inl (G.2.1, 6, .inl en)), (h3, .inl (G.2.1, 6, .inl mo))]) H → va_D A ([(h0, .inr (1, cS (kc (nI z0)) h1 h2 h3)), (h1, .inl (G.2.1, 6, .inl tk)), (h2, .inl (G.2.1, 6, .inl en)), (h3, .inl (G.2.1, 6, .inl mo))]) → va_S A s.heap H locs → lv_has ls 3 [(0, .ref h0), (1, .int la_1), (2, .int (nI j1))] → W p l e (kr 1) s m args below meth c H locs 0 0 (MQ below (qI G (fun (r : Int32) (_ : Unit) => r = r_X1_lastTick z0 tk) (fun _ => [(h0, .inr (1, cS (kc (nI z0)) h1 h2 h3)), (h1, .inl (G.2.1, 6, .inl tk)), (h2, .inl (G.2.1, 6, .inl en)), (h3, .inl (G.2.1, 6, .inl mo))]) A) args s 0 0 A) (F0 m 4 ls []) := by
    intro n1
    induction n1 with
    | zero =>
      intro j1 la_1 hj1 hr_1 H3 locs3 ls3 hP3 hD3 hS3 hl3
      refine lv_iload_n hx hb dX1_lastTick_4 rfl (lv_at hl3 2 rfl) ?_
      refine lv_aload_n hx hb dX1_lastTick_5 rfl (lv_at hl3 0 rfl) ?_
      refine va_get (ci := 1) (v := .int (nI z0)) (C := RX1) (T := TX1) (N := 4) hx hb ht inX1 hown hK.1 hP3 0 rfl rfl 3 (by decide) (ht _ q_251) (fun _ h9 => h9) rfl dX1_lastTick_6 ?_
      refine lv_icmp_ge (x := nI j1) (y := nI z0) (tgt := 35) hx hb dX1_lastTick_9 (by decide) (fun (c1 : nI z0 ≤ nI j1) => ?_) (fun (c1 : ¬ (nI z0 ≤ nI j1)) => absurd (kle_z rfl hj1) c1)
      refine lv_iload_n hx hb dX1_lastTick_35 rfl (lv_at hl3 1 rfl) ?_
      have er : r_X1_lastTick z0 tk = la_1 := by rw [hr_1, l_X1_lastTick_1_r]
      exact k_iret kx hK hP3 hD3 hS3 (u := ()) rfl er.symm dX1_lastTick_36
    | succ n1 ih1 =>
      intro j1 la_1 hj1 hr_1 H3 locs3 ls3 hP3 hD3 hS3 hl3
      refine lv_iload_n hx hb dX1_lastTick_4 rfl (lv_at hl3 2 rfl) ?_
      refine lv_aload_n hx hb dX1_lastTick_5 rfl (lv_at hl3 0 rfl) ?_
      refine va_get (ci := 1) (v := .int (nI z0)) (C := RX1) (T := TX1) (N := 4) hx hb ht inX1 hown hK.1 hP3 0 rfl rfl 3 (by decide) (ht _ q_251) (fun _ h9 => h9) rfl dX1_lastTick_6 ?_
      refine lv_icmp_ge (x := nI j1) (y := nI z0) (tgt := 35) hx hb dX1_lastTick_9 (by decide) (fun (c2 : nI z0 ≤ nI j1) => absurd c2 (kle_s rfl hj1 (by omega))) (fun (c2 : ¬ (nI z0 ≤ nI j1)) => ?_)
      refine lv_iload_n hx hb dX1_lastTick_12 rfl (lv_at hl3 2 rfl) ?_
      refine lv_bipush (v := 6) hx hb dX1_lastTick_13 (by decide) ?_
      refine lv_icmp_ge (x := nI j1) (y := 6) (tgt := 35) hx hb dX1_lastTick_15 (by decide) (fun (c3 : 6 ≤ nI j1) => absurd c3 (knle (N := 6) rfl (by omega) (by decide))) (fun (c3 : ¬ (6 ≤ nI j1)) => ?_)
      refine lv_iload_n hx hb dX1_lastTick_18 rfl (lv_at hl3 1 rfl) ?_
      refine lv_aload_n hx hb dX1_lastTick_19 rfl (lv_at hl3 0 rfl) ?_
      refine va_get (ci := 1) (v := .ref h1) (C := RX1) (T := TX1) (N := 4) hx hb ht inX1 hown hK.1 hP3 0 rfl rfl 0 (by decide) (ht _ q_248) (fun _ h9 => h9) rfl dX1_lastTick_20 ?_
      refine lv_iload_n hx hb dX1_lastTick_23 rfl (lv_at hl3 2 rfl) ?_
      refine k_iald (v := (tk j1)) kx hK hP3 1 rfl j1 rfl (by omega) (by decide) rfl dX1_lastTick_24 ?_
      refine va_mmax hx hb (by rw [kx.2.2.1, hl3.1]) hown (ht _ q_583) (ht _ q_338) (ht _ q_37) (ht _ q_339) (Nat.le_of_ble_eq_true rfl) (Nat.le_of_ble_eq_true rfl) (Nat.zero_le _) (Nat.zero_le _) dX1_lastTick_25 ?_
      refine k_top (y := kMax la_1 (tk j1)) rfl ?_
      refine lv_istore_n (lv' := [(1, .int (kMax la_1 (tk j1))), (0, .ref h0), (2, .int (nI j1))]) hx hb dX1_lastTick_28 rfl hl3 (by decide) rfl (fun ls4 hl4 => ?_)
      refine lv_iinc (v := nI (j1 + 1)) (lv' := [(2, .int (nI (j1 + 1))), (1, .int (kMax la_1 (tk j1))), (0, .ref h0)]) hx hb dX1_lastTick_29 hl4 (k := 2) rfl (nI_1 j1) (by decide) rfl (fun ls5 hl5 => ?_)
      refine lv_goto (tgt := 4) hx hb dX1_lastTick_32 (by decide) ?_
      have gr : r_X1_lastTick z0 tk = l_X1_lastTick_1_r tk n1 (j1 + 1) (kMax la_1 (tk j1)) := by rw [hr_1, l_X1_lastTick_1_r]
      exact ih1 (j1 + 1) (kMax la_1 (tk j1)) (by omega) gr _ _ _ hP3 hD3 hS3 (lv_sub hl5 [2, 1, 0] rfl)
  have gr : r_X1_lastTick z0 tk = l_X1_lastTick_1_r tk z0 0 (-1) := by rw [r_X1_lastTick]
  exact lp1 z0 0 (-1) (by omega) gr _ _ _ hP hD hS (lv_sub hl2 [2, 1, 0] rfl)

def l_X1_holdAt_1_r (tk : Nat → Int32) (en : Nat → Int32) (mo : Nat → Int32) (g : Nat → Nat → Int32) (p0 : Int32) : Nat → Nat → Int32
  | 0, j1 => 1
  | n1 + 1, j1 => if tk j1 = p0 then (if en j1 = 0 then (if g 0 5 = mo j1 then (l_X1_holdAt_1_r tk en mo g p0 n1 (j1 + 1)) else 0) else if g 1 5 = mo j1 then (l_X1_holdAt_1_r tk en mo g p0 n1 (j1 + 1)) else 0) else l_X1_holdAt_1_r tk en mo g p0 n1 (j1 + 1)
def r_X1_holdAt (z0 : Nat) (tk : Nat → Int32) (en : Nat → Int32) (mo : Nat → Int32) (g : Nat → Nat → Int32) (p0 : Int32) : Int32 := l_X1_holdAt_1_r tk en mo g p0 z0 0
set_option maxHeartbeats 4000000 in
set_option maxRecDepth 100000 in
theorem c_X1_holdAt (l : Launch) (G : kG) (z0 : Nat) (tk : Nat → Int32) (en : Nat → Int32) (mo : Nat → Int32) (h0 : Nat) (h1 : Nat) (h2 : Nat) (h3 : Nat) (g : Nat → Nat → Int32) (a : Nat → Nat) (p0 : Int32) (hz : z0 ≤ 6) : cG l G yX1_holdAt cX1_holdAt 4 (some .boolean) 1 [.ref h0, .int p0, .ref (a 0)] ([(h0, .inr (1, cS (kc (nI z0)) h1 h2 h3)), (h1, .inl (G.2.1, 6, .inl tk)), (h2, .inl (G.2.1, 6, .inl en)), (h3, .inl (G.2.1, 6, .inl mo))] ++ (cW a g)) (qI G (fun (r : Int32) (_ : Unit) => r = r_X1_holdAt z0 tk en mo g p0) (fun _ => [(h0, .inr (1, cS (kc (nI z0)) h1 h2 h3)), (h1, .inl (G.2.1, 6, .inl tk)), (h2, .inl (G.2.1, 6, .inl en)), (h3, .inl (G.2.1, 6, .inl mo))] ++ (cW a g))) := by
  refine kintro (by decide) (Nat.le_of_ble_eq_true rfl) ?_
  intro p e s m args below meth c A ls kx hK hP hD hS hA hl
  have kx : kX p s m args meth c cX1_holdAt 4 (some .boolean) RX1 := kx
  have hx := kx.1
  have hb := kx.2.1
  have hown := kx.2.2.2.2.1
  have ht := kx.2.2.2.2.2.2
  have hl : lv_has ls 4 [(0, .ref h0), (1, .int p0), (2, .ref (a 0))] := hl
  refine lv_iconst (v := 0) hx hb dX1_holdAt_0 (by decide) ?_
  refine lv_istore_n (lv' := [(3, .int 0), (0, .ref h0), (1, .int p0), (2, .ref (a 0))]) hx hb dX1_holdAt_1 rfl hl (by decide) rfl (fun ls1 hl1 => ?_)
  have lp1 : ∀ (n1 j1 : Nat), j1 + n1 = z0 → (hr_1 : r_X1_holdAt z0 tk en mo g p0 = l_X1_holdAt_1_r tk en mo g p0 n1 j1) → ∀ (H : Heap) (locs : List Loc) (ls : Array Slot), va_P G.1 vwCl ([(h0, .inr (1, cS (kc (nI z0)) h1 h2 h3)), (h1, .inl (G.2.1, 6, .inl tk)), (h2, .inl (G.2.1, 6, .inl en)), (h3, .inl (G.2.1, 6, .inl mo))] ++ (cW a g)) H → va_D A ([(h0, .inr (1, cS (kc (nI z0)) h1 h2 h3)), (h1, .inl (G.2.1, 6, .inl tk)), (h2, .inl (G.2.1, 6, .inl en)), (h3, .inl (G.2.1, 6, .inl mo))] ++ (cW a g)) → va_S A s.heap H locs → lv_has ls 4 [(0, .ref h0), (1, .int p0), (2, .ref (a 0)), (3, .int (nI j1))] → W p l e (kr 1) s m args below meth c H locs 0 0 (MQ below (qI G (fun (r : Int32) (_ : Unit) => r = r_X1_holdAt z0 tk en mo g p0) (fun _ => [(h0, .inr (1, cS (kc (nI z0)) h1 h2 h3)), (h1, .inl (G.2.1, 6, .inl tk)), (h2, .inl (G.2.1, 6, .inl en)), (h3, .inl (G.2.1, 6, .inl mo))] ++ (cW a g)) A) args s 0 0 A) (F0 m 2 ls []) := by
    intro n1
    induction n1 with
    | zero =>
      intro j1 hj1 hr_1 H2 locs2 ls2 hP2 hD2 hS2 hl2
      refine lv_iload_n hx hb dX1_holdAt_2 rfl (lv_at hl2 3 rfl) ?_
      refine lv_aload_n hx hb dX1_holdAt_3 rfl (lv_at hl2 0 rfl) ?_
      refine va_get (ci := 1) (v := .int (nI z0)) (C := RX1) (T := TX1) (N := 4) hx hb ht inX1 hown hK.1 hP2 0 rfl rfl 3 (by decide) (ht _ q_251) (fun _ h9 => h9) rfl dX1_holdAt_4 ?_
      refine lv_icmp_ge (x := nI j1) (y := nI z0) (tgt := 56) hx hb dX1_holdAt_7 (by decide) (fun (c1 : nI z0 ≤ nI j1) => ?_) (fun (c1 : ¬ (nI z0 ≤ nI j1)) => absurd (kle_z rfl hj1) c1)
      refine lv_iconst (v := 1) hx hb dX1_holdAt_56 (by decide) ?_
      have er : r_X1_holdAt z0 tk en mo g p0 = 1 := by rw [hr_1, l_X1_holdAt_1_r]
      exact k_zret kx hK hP2 hD2 hS2 (u := ()) rfl er.symm kb1 dX1_holdAt_57
    | succ n1 ih1 =>
      intro j1 hj1 hr_1 H2 locs2 ls2 hP2 hD2 hS2 hl2
      refine lv_iload_n hx hb dX1_holdAt_2 rfl (lv_at hl2 3 rfl) ?_
      refine lv_aload_n hx hb dX1_holdAt_3 rfl (lv_at hl2 0 rfl) ?_
      refine va_get (ci := 1) (v := .int (nI z0)) (C := RX1) (T := TX1) (N := 4) hx hb ht inX1 hown hK.1 hP2 0 rfl rfl 3 (by decide) (ht _ q_251) (fun _ h9 => h9) rfl dX1_holdAt_4 ?_
      refine lv_icmp_ge (x := nI j1) (y := nI z0) (tgt := 56) hx hb dX1_holdAt_7 (by decide) (fun (c2 : nI z0 ≤ nI j1) => absurd c2 (kle_s rfl hj1 (by omega))) (fun (c2 : ¬ (nI z0 ≤ nI j1)) => ?_)
      refine lv_iload_n hx hb dX1_holdAt_10 rfl (lv_at hl2 3 rfl) ?_
      refine lv_bipush (v := 6) hx hb dX1_holdAt_11 (by decide) ?_
      refine lv_icmp_ge (x := nI j1) (y := 6) (tgt := 56) hx hb dX1_holdAt_13 (by decide) (fun (c3 : 6 ≤ nI j1) => absurd c3 (knle (N := 6) rfl (by omega) (by decide))) (fun (c3 : ¬ (6 ≤ nI j1)) => ?_)
      refine lv_aload_n hx hb dX1_holdAt_16 rfl (lv_at hl2 0 rfl) ?_
      refine va_get (ci := 1) (v := .ref h1) (C := RX1) (T := TX1) (N := 4) hx hb ht inX1 hown hK.1 hP2 0 rfl rfl 0 (by decide) (ht _ q_248) (fun _ h9 => h9) rfl dX1_holdAt_17 ?_
      refine lv_iload_n hx hb dX1_holdAt_20 rfl (lv_at hl2 3 rfl) ?_
      refine k_iald (v := (tk j1)) kx hK hP2 1 rfl j1 rfl (by omega) (by decide) rfl dX1_holdAt_21 ?_
      refine lv_iload_n hx hb dX1_holdAt_22 rfl (lv_at hl2 1 rfl) ?_
      refine lv_icmp_ne (x := tk j1) (y := p0) (tgt := 50) hx hb dX1_holdAt_23 (by decide) (fun (c4 : ¬ (tk j1 = p0)) => ?_) (fun (c4 : tk j1 = p0) => ?_)
      · skip
        refine lv_iinc (v := nI (j1 + 1)) (lv' := [(3, .int (nI (j1 + 1))), (0, .ref h0), (1, .int p0), (2, .ref (a 0))]) hx hb dX1_holdAt_50 hl2 (k := 3) rfl (nI_1 j1) (by decide) rfl (fun ls3 hl3 => ?_)
        refine lv_goto (tgt := 2) hx hb dX1_holdAt_53 (by decide) ?_
        have gr : r_X1_holdAt z0 tk en mo g p0 = l_X1_holdAt_1_r tk en mo g p0 n1 (j1 + 1) := by rw [hr_1, l_X1_holdAt_1_r, if_neg c4]
        exact ih1 (j1 + 1) (by omega) gr _ _ _ hP2 hD2 hS2 (lv_sub hl3 [1, 2, 3, 0] rfl)
      · skip
        refine lv_aload_n hx hb dX1_holdAt_26 rfl (lv_at hl2 2 rfl) ?_
        refine lv_aload_n hx hb dX1_holdAt_27 rfl (lv_at hl2 0 rfl) ?_
        refine va_get (ci := 1) (v := .ref h2) (C := RX1) (T := TX1) (N := 4) hx hb ht inX1 hown hK.1 hP2 0 rfl rfl 1 (by decide) (ht _ q_249) (fun _ h9 => h9) rfl dX1_holdAt_28 ?_
        refine lv_iload_n hx hb dX1_holdAt_31 rfl (lv_at hl2 3 rfl) ?_
        refine k_iald (v := (en j1)) kx hK hP2 2 rfl j1 rfl (by omega) (by decide) rfl dX1_holdAt_32 ?_
        by_cases c5 : en j1 = 0
        · skip
          refine k_top (y := 0) c5 ?_
          refine k_callr (kRunV (As := [.int 0]) (rest := []) kx (c_X5_endOf_0 l G (g 4) (a 0) (a 1) (a 3) (a 5) (a 7)) q_329 q_588 q_31 q_327 q_328 nX5_endOf ⟨Nat.le_of_ble_eq_true rfl, Nat.le_of_ble_eq_true rfl⟩ hK hP2 hD2 (kCtx_places _ _ [4] rfl rfl) 0 5 rfl rfl rfl rfl hl2.1 (Nat.le_of_ble_eq_true rfl) dX1_holdAt_33 ⟨Nat.zero_le _, Nat.zero_le _⟩) hP2 hD2 hS2 hA (kCtx_places _ _ [4] rfl rfl) (fun _ => rfl) (fun r6 _ H4 locs4 hw hP4 hD4 hS4 => ?_)
          have hr6 : a 1 = r6 := (show r6 = a 1 from hw).symm
          subst hr6
          have hP5 : va_P G.1 vwCl ([(h0, .inr (1, cS (kc (nI z0)) h1 h2 h3)), (h1, .inl (G.2.1, 6, .inl tk)), (h2, .inl (G.2.1, 6, .inl en)), (h3, .inl (G.2.1, 6, .inl mo))] ++ (cW a g)) H4 := hP4
          have hD6 : va_D A ([(h0, .inr (1, cS (kc (nI z0)) h1 h2 h3)), (h1, .inl (G.2.1, 6, .inl tk)), (h2, .inl (G.2.1, 6, .inl en)), (h3, .inl (G.2.1, 6, .inl mo))] ++ (cW a g)) := hD4
          refine va_get (ci := 0) (v := .int (g 0 5)) (C := RX0) (T := TX0) (N := 12) hx hb ht inX0 hown hK.1 hP5 5 rfl rfl 5 (by decide) (ht _ q_113) (fun _ h9 => h9) rfl dX1_holdAt_36 ?_
          refine lv_aload_n hx hb dX1_holdAt_39 rfl (lv_at hl2 0 rfl) ?_
          refine va_get (ci := 1) (v := .ref h3) (C := RX1) (T := TX1) (N := 4) hx hb ht inX1 hown hK.1 hP5 0 rfl rfl 2 (by decide) (ht _ q_250) (fun _ h9 => h9) rfl dX1_holdAt_40 ?_
          refine lv_iload_n hx hb dX1_holdAt_43 rfl (lv_at hl2 3 rfl) ?_
          refine k_iald (v := (mo j1)) kx hK hP5 3 rfl j1 rfl (by omega) (by decide) rfl dX1_holdAt_44 ?_
          refine lv_icmp_eq (x := g 0 5) (y := mo j1) (tgt := 50) hx hb dX1_holdAt_45 (by decide) (fun (c7 : g 0 5 = mo j1) => ?_) (fun (c7 : ¬ (g 0 5 = mo j1)) => ?_)
          · skip
            refine lv_iinc (v := nI (j1 + 1)) (lv' := [(3, .int (nI (j1 + 1))), (0, .ref h0), (1, .int p0), (2, .ref (a 0))]) hx hb dX1_holdAt_50 hl2 (k := 3) rfl (nI_1 j1) (by decide) rfl (fun ls7 hl7 => ?_)
            refine lv_goto (tgt := 2) hx hb dX1_holdAt_53 (by decide) ?_
            have gr : r_X1_holdAt z0 tk en mo g p0 = l_X1_holdAt_1_r tk en mo g p0 n1 (j1 + 1) := by rw [hr_1, l_X1_holdAt_1_r, if_pos c4, if_pos c5, if_pos c7]
            exact ih1 (j1 + 1) (by omega) gr _ _ _ hP5 hD6 hS4 (lv_sub hl7 [1, 2, 3, 0] rfl)
          · skip
            refine lv_iconst (v := 0) hx hb dX1_holdAt_48 (by decide) ?_
            have er : r_X1_holdAt z0 tk en mo g p0 = 0 := by rw [hr_1, l_X1_holdAt_1_r, if_pos c4, if_pos c5, if_neg c7]
            exact k_zret kx hK hP5 hD6 hS4 (u := ()) rfl er.symm kb0 dX1_holdAt_49
        · skip
          refine k_callr (kRunV (As := [.int (en j1)]) (rest := []) kx (c_X5_endOf_n l G (g 4) (a 0) (a 1) (a 3) (a 5) (a 7) (en j1) c5) q_329 q_588 q_31 q_327 q_328 nX5_endOf ⟨Nat.le_of_ble_eq_true rfl, Nat.le_of_ble_eq_true rfl⟩ hK hP2 hD2 (kCtx_places _ _ [4] rfl rfl) 0 5 rfl rfl rfl rfl hl2.1 (Nat.le_of_ble_eq_true rfl) dX1_holdAt_33 ⟨Nat.zero_le _, Nat.zero_le _⟩) hP2 hD2 hS2 hA (kCtx_places _ _ [4] rfl rfl) (fun _ => rfl) (fun r8 _ H8 locs8 hw hP8 hD8 hS8 => ?_)
          have hr8 : a 3 = r8 := (show r8 = a 3 from hw).symm
          subst hr8
          have hP9 : va_P G.1 vwCl ([(h0, .inr (1, cS (kc (nI z0)) h1 h2 h3)), (h1, .inl (G.2.1, 6, .inl tk)), (h2, .inl (G.2.1, 6, .inl en)), (h3, .inl (G.2.1, 6, .inl mo))] ++ (cW a g)) H8 := hP8
          have hD10 : va_D A ([(h0, .inr (1, cS (kc (nI z0)) h1 h2 h3)), (h1, .inl (G.2.1, 6, .inl tk)), (h2, .inl (G.2.1, 6, .inl en)), (h3, .inl (G.2.1, 6, .inl mo))] ++ (cW a g)) := hD8
          refine va_get (ci := 0) (v := .int (g 1 5)) (C := RX0) (T := TX0) (N := 12) hx hb ht inX0 hown hK.1 hP9 7 rfl rfl 5 (by decide) (ht _ q_113) (fun _ h9 => h9) rfl dX1_holdAt_36 ?_
          refine lv_aload_n hx hb dX1_holdAt_39 rfl (lv_at hl2 0 rfl) ?_
          refine va_get (ci := 1) (v := .ref h3) (C := RX1) (T := TX1) (N := 4) hx hb ht inX1 hown hK.1 hP9 0 rfl rfl 2 (by decide) (ht _ q_250) (fun _ h9 => h9) rfl dX1_holdAt_40 ?_
          refine lv_iload_n hx hb dX1_holdAt_43 rfl (lv_at hl2 3 rfl) ?_
          refine k_iald (v := (mo j1)) kx hK hP9 3 rfl j1 rfl (by omega) (by decide) rfl dX1_holdAt_44 ?_
          refine lv_icmp_eq (x := g 1 5) (y := mo j1) (tgt := 50) hx hb dX1_holdAt_45 (by decide) (fun (c9 : g 1 5 = mo j1) => ?_) (fun (c9 : ¬ (g 1 5 = mo j1)) => ?_)
          · skip
            refine lv_iinc (v := nI (j1 + 1)) (lv' := [(3, .int (nI (j1 + 1))), (0, .ref h0), (1, .int p0), (2, .ref (a 0))]) hx hb dX1_holdAt_50 hl2 (k := 3) rfl (nI_1 j1) (by decide) rfl (fun ls11 hl11 => ?_)
            refine lv_goto (tgt := 2) hx hb dX1_holdAt_53 (by decide) ?_
            have gr : r_X1_holdAt z0 tk en mo g p0 = l_X1_holdAt_1_r tk en mo g p0 n1 (j1 + 1) := by rw [hr_1, l_X1_holdAt_1_r, if_pos c4, if_neg c5, if_pos c9]
            exact ih1 (j1 + 1) (by omega) gr _ _ _ hP9 hD10 hS8 (lv_sub hl11 [1, 2, 3, 0] rfl)
          · skip
            refine lv_iconst (v := 0) hx hb dX1_holdAt_48 (by decide) ?_
            have er : r_X1_holdAt z0 tk en mo g p0 = 0 := by rw [hr_1, l_X1_holdAt_1_r, if_pos c4, if_neg c5, if_neg c9]
            exact k_zret kx hK hP9 hD10 hS8 (u := ()) rfl er.symm kb0 dX1_holdAt_49
  have gr : r_X1_holdAt z0 tk en mo g p0 = l_X1_holdAt_1_r tk en mo g p0 z0 0 := by rw [r_X1_holdAt]
  exact lp1 z0 0 (by omega) gr _ _ _ hP hD hS (lv_sub hl1 [1, 2, 3, 0] rfl)

def l_X1_holdIn_1_r (z0 : Nat) (tk : Nat → Int32) (en : Nat → Int32) (mo : Nat → Int32) : Nat → Nat → (Nat → Nat → Int32) → Int32
  | 0, j1, g_1 => if r_X1_lastTick z0 tk < nI j1 then 1 else 1
  | n1 + 1, j1, g_1 => if r_X1_lastTick z0 tk < nI j1 then 1 else if (r_X1_holdAt z0 tk en mo g_1 (nI j1)) = 0 then 0 else l_X1_holdIn_1_r z0 tk en mo n1 (j1 + 1) (s_X5_tick_g g_1)
def r_X1_holdIn (z0 : Nat) (tk : Nat → Int32) (en : Nat → Int32) (mo : Nat → Int32) (g : Nat → Nat → Int32) : Int32 := l_X1_holdIn_1_r z0 tk en mo 100 0 g
def l_X1_holdIn_1_g (z0 : Nat) (tk : Nat → Int32) (en : Nat → Int32) (mo : Nat → Int32) : Nat → Nat → (Nat → Nat → Int32) → Nat → Nat → Int32
  | 0, j1, g_1 => if r_X1_lastTick z0 tk < nI j1 then g_1 else g_1
  | n1 + 1, j1, g_1 => if r_X1_lastTick z0 tk < nI j1 then g_1 else if (r_X1_holdAt z0 tk en mo g_1 (nI j1)) = 0 then g_1 else l_X1_holdIn_1_g z0 tk en mo n1 (j1 + 1) (s_X5_tick_g g_1)
def s_X1_holdIn_g (z0 : Nat) (tk : Nat → Int32) (en : Nat → Int32) (mo : Nat → Int32) (g : Nat → Nat → Int32) : Nat → Nat → Int32 := l_X1_holdIn_1_g z0 tk en mo 100 0 g
set_option maxHeartbeats 4000000 in
set_option maxRecDepth 100000 in
theorem c_X1_holdIn (l : Launch) (G : kG) (z0 : Nat) (tk : Nat → Int32) (en : Nat → Int32) (mo : Nat → Int32) (h0 : Nat) (h1 : Nat) (h2 : Nat) (h3 : Nat) (g : Nat → Nat → Int32) (a : Nat → Nat) (hz : z0 ≤ 6) (hg : bW g) : cG l G yX1_holdIn cX1_holdIn 4 (some .boolean) 4 [.ref h0, .ref (a 0)] ([(h0, .inr (1, cS (kc (nI z0)) h1 h2 h3)), (h1, .inl (G.2.1, 6, .inl tk)), (h2, .inl (G.2.1, 6, .inl en)), (h3, .inl (G.2.1, 6, .inl mo))] ++ (cW a g)) (qI G (fun (r : Int32) (u : (Nat → Nat → Int32)) => r = r_X1_holdIn z0 tk en mo g ∧ u = s_X1_holdIn_g z0 tk en mo g) (fun u => [(h0, .inr (1, cS (kc (nI z0)) h1 h2 h3)), (h1, .inl (G.2.1, 6, .inl tk)), (h2, .inl (G.2.1, 6, .inl en)), (h3, .inl (G.2.1, 6, .inl mo))] ++ (cW a u))) := by
  refine kintro (by decide) (Nat.le_of_ble_eq_true rfl) ?_
  intro p e s m args below meth c A ls kx hK hP hD hS hA hl
  have kx : kX p s m args meth c cX1_holdIn 4 (some .boolean) RX1 := kx
  have hx := kx.1
  have hb := kx.2.1
  have hown := kx.2.2.2.2.1
  have ht := kx.2.2.2.2.2.2
  have hl : lv_has ls 4 [(0, .ref h0), (1, .ref (a 0))] := hl
  refine lv_aload_n hx hb dX1_holdIn_0 rfl (lv_at hl 0 rfl) ?_
  refine k_calli (kRunV (As := []) (rest := []) kx (c_X1_lastTick l G z0 tk en mo h0 h1 h2 h3 hz) q_582 q_579 q_35 q_581 q_9 nX1_lastTick ⟨Nat.le_of_ble_eq_true rfl, Nat.le_of_ble_eq_true rfl⟩ hK hP hD (kCtx_front _ _) 0 1 rfl rfl rfl rfl hl.1 (Nat.le_of_ble_eq_true rfl) dX1_holdIn_1 ⟨Nat.zero_le _, Nat.zero_le _⟩) hP hD hS hA (kCtx_front _ _) (fun _ => rfl) (fun r1 _ H1 locs1 hw hP1 hD1 hS1 => ?_)
  have hr1 : r_X1_lastTick z0 tk = r1 := (show r1 = r_X1_lastTick z0 tk from hw).symm
  have hP2 : va_P G.1 vwCl ([(h0, .inr (1, cS (kc (nI z0)) h1 h2 h3)), (h1, .inl (G.2.1, 6, .inl tk)), (h2, .inl (G.2.1, 6, .inl en)), (h3, .inl (G.2.1, 6, .inl mo))] ++ (cW a g)) H1 := hP1
  have hD3 : va_D A ([(h0, .inr (1, cS (kc (nI z0)) h1 h2 h3)), (h1, .inl (G.2.1, 6, .inl tk)), (h2, .inl (G.2.1, 6, .inl en)), (h3, .inl (G.2.1, 6, .inl mo))] ++ (cW a g)) := hD1
  refine lv_istore_n (lv' := [(2, .int r1), (0, .ref h0), (1, .ref (a 0))]) hx hb dX1_holdIn_4 rfl hl (by decide) rfl (fun ls4 hl4 => ?_)
  refine lv_iconst (v := 0) hx hb dX1_holdIn_5 (by decide) ?_
  refine lv_istore_n (lv' := [(3, .int 0), (2, .int r1), (0, .ref h0), (1, .ref (a 0))]) hx hb dX1_holdIn_6 rfl hl4 (by decide) rfl (fun ls5 hl5 => ?_)
  subst hr1
  have lp1 : ∀ (n1 j1 : Nat) (g_1 : Nat → Nat → Int32), j1 + n1 = 100 → (hr_1 : r_X1_holdIn z0 tk en mo g = l_X1_holdIn_1_r z0 tk en mo n1 j1 g_1) → (hg_1 : s_X1_holdIn_g z0 tk en mo g = l_X1_holdIn_1_g z0 tk en mo n1 j1 g_1) → (hb1 : bW g_1) → ∀ (H : Heap) (locs : List Loc) (ls : Array Slot), va_P G.1 vwCl ([(h0, .inr (1, cS (kc (nI z0)) h1 h2 h3)), (h1, .inl (G.2.1, 6, .inl tk)), (h2, .inl (G.2.1, 6, .inl en)), (h3, .inl (G.2.1, 6, .inl mo))] ++ (cW a g_1)) H → va_D A ([(h0, .inr (1, cS (kc (nI z0)) h1 h2 h3)), (h1, .inl (G.2.1, 6, .inl tk)), (h2, .inl (G.2.1, 6, .inl en)), (h3, .inl (G.2.1, 6, .inl mo))] ++ (cW a g_1)) → va_S A s.heap H locs → lv_has ls 4 [(0, .ref h0), (1, .ref (a 0)), (2, .int (r_X1_lastTick z0 tk)), (3, .int (nI j1))] → W p l e (kr 4) s m args below meth c H locs 0 0 (MQ below (qI G (fun (r : Int32) (u : (Nat → Nat → Int32)) => r = r_X1_holdIn z0 tk en mo g ∧ u = s_X1_holdIn_g z0 tk en mo g) (fun u => [(h0, .inr (1, cS (kc (nI z0)) h1 h2 h3)), (h1, .inl (G.2.1, 6, .inl tk)), (h2, .inl (G.2.1, 6, .inl en)), (h3, .inl (G.2.1, 6, .inl mo))] ++ (cW a u)) A) args s 0 0 A) (F0 m 7 ls []) := by
    intro n1
    induction n1 with
    | zero =>
      intro j1 g_1 hj1 hr_1 hg_1 hb1 H6 locs6 ls6 hP6 hD6 hS6 hl6
      refine lv_iload_n hx hb dX1_holdIn_7 rfl (lv_at hl6 3 rfl) ?_
      refine lv_iload_n hx hb dX1_holdIn_8 rfl (lv_at hl6 2 rfl) ?_
      refine lv_icmp_gt (x := nI j1) (y := r_X1_lastTick z0 tk) (tgt := 39) hx hb dX1_holdIn_9 (by decide) (fun (c2 : r_X1_lastTick z0 tk < nI j1) => ?_) (fun (c2 : ¬ (r_X1_lastTick z0 tk < nI j1)) => ?_)
      · skip
        refine lv_iconst (v := 1) hx hb dX1_holdIn_39 (by decide) ?_
        have er : r_X1_holdIn z0 tk en mo g = 1 := by rw [hr_1, l_X1_holdIn_1_r, if_pos c2]
        have e0 : s_X1_holdIn_g z0 tk en mo g = g_1 := by rw [hg_1, l_X1_holdIn_1_g, if_pos c2]
        exact k_zret kx hK hP6 hD6 hS6 (u := g_1) rfl ⟨er.symm, e0.symm⟩ kb1 dX1_holdIn_40
      · skip
        refine lv_iload_n hx hb dX1_holdIn_12 rfl (lv_at hl6 3 rfl) ?_
        refine lv_bipush (v := 99) hx hb dX1_holdIn_13 (by decide) ?_
        refine lv_icmp_gt (x := nI j1) (y := 99) (tgt := 39) hx hb dX1_holdIn_15 (by decide) (fun (c3 : 99 < nI j1) => ?_) (fun (c3 : ¬ (99 < nI j1)) => absurd (klt_z rfl hj1 (by decide)) c3)
        refine lv_iconst (v := 1) hx hb dX1_holdIn_39 (by decide) ?_
        have er : r_X1_holdIn z0 tk en mo g = 1 := by rw [hr_1, l_X1_holdIn_1_r, if_neg c2]
        have e0 : s_X1_holdIn_g z0 tk en mo g = g_1 := by rw [hg_1, l_X1_holdIn_1_g, if_neg c2]
        exact k_zret kx hK hP6 hD6 hS6 (u := g_1) rfl ⟨er.symm, e0.symm⟩ kb1 dX1_holdIn_40
    | succ n1 ih1 =>
      intro j1 g_1 hj1 hr_1 hg_1 hb1 H6 locs6 ls6 hP6 hD6 hS6 hl6
      refine lv_iload_n hx hb dX1_holdIn_7 rfl (lv_at hl6 3 rfl) ?_
      refine lv_iload_n hx hb dX1_holdIn_8 rfl (lv_at hl6 2 rfl) ?_
      refine lv_icmp_gt (x := nI j1) (y := r_X1_lastTick z0 tk) (tgt := 39) hx hb dX1_holdIn_9 (by decide) (fun (c4 : r_X1_lastTick z0 tk < nI j1) => ?_) (fun (c4 : ¬ (r_X1_lastTick z0 tk < nI j1)) => ?_)
      · skip
        refine lv_iconst (v := 1) hx hb dX1_holdIn_39 (by decide) ?_
        have er : r_X1_holdIn z0 tk en mo g = 1 := by rw [hr_1, l_X1_holdIn_1_r, if_pos c4]
        have e0 : s_X1_holdIn_g z0 tk en mo g = g_1 := by rw [hg_1, l_X1_holdIn_1_g, if_pos c4]
        exact k_zret kx hK hP6 hD6 hS6 (u := g_1) rfl ⟨er.symm, e0.symm⟩ kb1 dX1_holdIn_40
      · skip
        refine lv_iload_n hx hb dX1_holdIn_12 rfl (lv_at hl6 3 rfl) ?_
        refine lv_bipush (v := 99) hx hb dX1_holdIn_13 (by decide) ?_
        refine lv_icmp_gt (x := nI j1) (y := 99) (tgt := 39) hx hb dX1_holdIn_15 (by decide) (fun (c5 : 99 < nI j1) => absurd c5 (klt_s rfl hj1 (by decide))) (fun (c5 : ¬ (99 < nI j1)) => ?_)
        refine lv_aload_n hx hb dX1_holdIn_18 rfl (lv_at hl6 0 rfl) ?_
        refine lv_iload_n hx hb dX1_holdIn_19 rfl (lv_at hl6 3 rfl) ?_
        refine lv_aload_n hx hb dX1_holdIn_20 rfl (lv_at hl6 1 rfl) ?_
        refine k_calli (kRunV (As := [.int (nI j1), .ref (a 0)]) (rest := []) kx (c_X1_holdAt l G z0 tk en mo h0 h1 h2 h3 g_1 a (nI j1) hz) q_587 q_584 q_35 q_586 q_10 nX1_holdAt ⟨Nat.le_of_ble_eq_true rfl, Nat.le_of_ble_eq_true rfl⟩ hK hP6 hD6 (kCtx_all _) 0 1 rfl rfl rfl rfl hl6.1 (Nat.le_of_ble_eq_true rfl) dX1_holdIn_21 ⟨Nat.zero_le _, Nat.zero_le _⟩) hP6 hD6 hS6 hA (kCtx_all _) (fun _ => rfl) (fun r6 _ H7 locs7 hw hP7 hD7 hS7 => ?_)
        have hr6 : r_X1_holdAt z0 tk en mo g_1 (nI j1) = r6 := (show r6 = r_X1_holdAt z0 tk en mo g_1 (nI j1) from hw).symm
        have hP8 : va_P G.1 vwCl ([(h0, .inr (1, cS (kc (nI z0)) h1 h2 h3)), (h1, .inl (G.2.1, 6, .inl tk)), (h2, .inl (G.2.1, 6, .inl en)), (h3, .inl (G.2.1, 6, .inl mo))] ++ (cW a g_1)) H7 := hP7
        have hD9 : va_D A ([(h0, .inr (1, cS (kc (nI z0)) h1 h2 h3)), (h1, .inl (G.2.1, 6, .inl tk)), (h2, .inl (G.2.1, 6, .inl en)), (h3, .inl (G.2.1, 6, .inl mo))] ++ (cW a g_1)) := hD7
        refine lv_if_ne (x := r6) (tgt := 29) hx hb dX1_holdIn_24 (by decide) (fun (c7 : ¬ (r6 = 0)) => ?_) (fun (c7 : r6 = 0) => ?_)
        · skip
          refine lv_aload_n hx hb dX1_holdIn_29 rfl (lv_at hl6 1 rfl) ?_
          refine k_callv (kRunV (As := []) (rest := []) kx (c_X5_tick l G g_1 a hb1) q_359 q_589 q_31 q_357 q_358 nX5_tick ⟨Nat.le_of_ble_eq_true rfl, Nat.le_of_ble_eq_true rfl⟩ hK hP8 hD9 (kCtx_end _ _) 0 5 rfl rfl rfl rfl hl6.1 (Nat.le_of_ble_eq_true rfl) dX1_holdIn_30 ⟨Nat.zero_le _, Nat.zero_le _⟩) hP8 hD9 hS7 hA (kCtx_end _ _) (fun _ => rfl) (fun g9 H10 locs10 hw hP10 hD10 hS10 => ?_)
          have hg9 : s_X5_tick_g g_1 = g9 := (show g9 = s_X5_tick_g g_1 from hw).symm
          have hP11 : va_P G.1 vwCl ([(h0, .inr (1, cS (kc (nI z0)) h1 h2 h3)), (h1, .inl (G.2.1, 6, .inl tk)), (h2, .inl (G.2.1, 6, .inl en)), (h3, .inl (G.2.1, 6, .inl mo))] ++ (cW a g9)) H10 := hP10
          have hD12 : va_D A ([(h0, .inr (1, cS (kc (nI z0)) h1 h2 h3)), (h1, .inl (G.2.1, 6, .inl tk)), (h2, .inl (G.2.1, 6, .inl en)), (h3, .inl (G.2.1, 6, .inl mo))] ++ (cW a g9)) := hD10
          refine lv_iinc (v := nI (j1 + 1)) (lv' := [(3, .int (nI (j1 + 1))), (0, .ref h0), (1, .ref (a 0)), (2, .int (r_X1_lastTick z0 tk))]) hx hb dX1_holdIn_33 hl6 (k := 3) rfl (nI_1 j1) (by decide) rfl (fun ls13 hl13 => ?_)
          refine lv_goto (tgt := 7) hx hb dX1_holdIn_36 (by decide) ?_
          subst hr6
          subst hg9
          have gr : r_X1_holdIn z0 tk en mo g = l_X1_holdIn_1_r z0 tk en mo n1 (j1 + 1) (s_X5_tick_g g_1) := by rw [hr_1, l_X1_holdIn_1_r, if_neg c4, if_neg c7]
          have gg : s_X1_holdIn_g z0 tk en mo g = l_X1_holdIn_1_g z0 tk en mo n1 (j1 + 1) (s_X5_tick_g g_1) := by rw [hg_1, l_X1_holdIn_1_g, if_neg c4, if_neg c7]
          exact ih1 (j1 + 1) (s_X5_tick_g g_1) (by omega) gr gg (b_s_X5_tick_g g_1 hb1) _ _ _ hP11 hD12 hS10 (lv_sub hl13 [1, 2, 3, 0] rfl)
        · skip
          refine lv_iconst (v := 0) hx hb dX1_holdIn_27 (by decide) ?_
          have er : r_X1_holdIn z0 tk en mo g = 0 := by rw [hr_1, l_X1_holdIn_1_r]; (try rw [hr6]); rw [if_neg c4, if_pos c7]
          have e0 : s_X1_holdIn_g z0 tk en mo g = g_1 := by rw [hg_1, l_X1_holdIn_1_g]; (try rw [hr6]); rw [if_neg c4, if_pos c7]
          exact k_zret kx hK hP8 hD9 hS7 (u := g_1) rfl ⟨er.symm, e0.symm⟩ kb0 dX1_holdIn_28
  have gr : r_X1_holdIn z0 tk en mo g = l_X1_holdIn_1_r z0 tk en mo 100 0 g := by rw [r_X1_holdIn]
  have gg : s_X1_holdIn_g z0 tk en mo g = l_X1_holdIn_1_g z0 tk en mo 100 0 g := by rw [s_X1_holdIn_g]
  exact lp1 100 0 g (by omega) gr gg hg _ _ _ hP2 hD3 hS1 (lv_sub hl5 [2, 3, 1, 0] rfl)
