/-! the law: both objects beside each other -/
theorem st_undo {n9 d L z : Nat} {pi : Nat → Nat} {sg ik tk en mo : Nat → Int32} {gN gS0 gS1 : Nat → Nat → Int32} {gB : Nat → Nat → Nat → Int32} {Z tx pg bk kp jk sa se sm : Nat → Int32} (h : rR n9 d L z pi sg ik tk en mo gN gS0 gS1 gB Z tx pg bk kp jk sa se sm) : r_X6_undo d = r_X7_undo d pg bk ∧ ∃ (d1 : Nat), s_X6_undo_ac d = kc (nI d1) ∧ rR n9 d1 L z pi sg ik tk en mo (s_X6_undo_gN d pi gN gB) gS0 gS1 gB (s_X7_undo_Z Z d pg bk) tx (s_X7_undo_pg d pg bk) bk kp jk sa se sm := by
  obtain ⟨e, d1, h1, h2, h3, h4, h5, h6⟩ := q_undo h.2.2.2.2.2.2.1 h.2.1 h.2.2.2.2.2.1 Z
  exact ⟨e, d1, h2, rR_act h h1 h3 h4 h5 h6⟩
def lwS (G : kG) (n9 : Nat) (A : Nat → Prop) (h0 t0 t1 b0 s0 i0 e0 e1 e2 e3 : Nat) (aN aT aS0 aS1 : Nat → Nat) (aB : Nat → Nat → Nat) (h7 : Nat) (uq : Nat → Nat) (H : Heap) : Prop := ∃ (d : Nat) (sd : Int64) (pi : Nat → Nat) (L : Nat) (sg ik : Nat → Int32) (z : Nat) (tk en mo : Nat → Int32) (gN gT gS0 gS1 : Nat → Nat → Int32) (gB : Nat → Nat → Nat → Int32) (Z tx rp re pg tr bk kp jk sa se sm : Nat → Int32), rR n9 d L z pi sg ik tk en mo gN gS0 gS1 gB Z tx pg bk kp jk sa se sm ∧ va_P G.1 vwCl (cAll G n9 d sd h0 t0 t1 b0 s0 i0 e0 e1 e2 e3 aN aT aS0 aS1 pi aB L sg ik z tk en mo gN gT gS0 gS1 gB ++ mAll G Z sd h7 uq tx rp re pg tr bk kp jk sa se sm) H ∧ va_D A (cAll G n9 d sd h0 t0 t1 b0 s0 i0 e0 e1 e2 e3 aN aT aS0 aS1 pi aB L sg ik z tk en mo gN gT gS0 gS1 gB ++ mAll G Z sd h7 uq tx rp re pg tr bk kp jk sa se sm)
section LW
variable {p : Program} {l : Launch} {e : Env} {s : State} {m : MethodId} {args : Array Value} {below : List Frame} {meth : Method} {c : Code} {H : Heap} {locs : List Loc} {cells slots : Nat} {Qq : State → Prop} {rr : Option FieldType}
variable {ls : Array Slot} {rest : List Value} {G : kG} {A : Nat → Prop} {b n0 I n9 : Nat} {xs : Nat → Int32} {h0 t0 t1 b0 s0 i0 e0 e1 e2 e3 : Nat} {aN aT aS0 aS1 : Nat → Nat} {aB : Nat → Nat → Nat} {h7 : Nat} {uq : Nat → Nat}
/-- a number of the script is laid on the stack -/
theorem lw_arg (kx : kX p s m args meth c cL_law 4 rr RL) (hX : va_X b n0 xs s s.heap) (hbl : b < s.heap.size) (hbA : ¬ A b) (hS : va_S A s.heap H locs) (hI : I + 4 ≤ n0) (hn : n0 ≤ 2048) (hl : lv_has ls 4 [(3, .int (nI I)), (2, .ref h7), (1, .ref h0), (0, .ref b)]) {pc k : Nat} {kI : Int} {v : Int32} (hk : k < 4) (hkI : Int32.ofInt kI = nI k) (hv : xs (I + k) = v) (d0 : decode cL_law pc = .ok (.aload_n 0, 1)) (d1 : decode cL_law (pc + 1) = .ok (.iload_n 3, 1)) (d2 : decode cL_law (pc + 2) = .ok (.iconst kI, 1)) (d3 : decode cL_law (pc + 3) = .ok (.iadd, 1)) (d4 : decode cL_law (pc + 4) = .ok (.iaload, 1))
    (kk : W p l e room_1 s m args below meth c H locs cells slots Qq (F0 m (pc + 5) ls (.int v :: rest))) : W p l e room_1 s m args below meth c H locs cells slots Qq (F0 m pc ls rest) := by
  have hx := kx.1
  have hb := kx.2.1
  refine lv_aload_n hx hb d0 rfl (lv_at hl 3 rfl) ?_
  refine lv_iload_n hx hb d1 rfl (lv_at hl 0 rfl) ?_
  refine lv_iconst (v := nI k) hx hb d2 hkI ?_
  refine lv_iadd hx hb d3 ?_
  rw [nI_add]
  refine va_sld (i := nI (I + k)) hx hb hX hbl hbA hS (fun q => ?_) d4 ?_
  · rcases q with q | q
    · exact absurd q (Int32.not_lt.mpr (nI_pos' (by omega)))
    · rw [nI_clamp (by omega)] at q; omega
  · rw [nI_clamp (by omega), hv]
    exact kk
theorem lwcmp (x : Int64) : lg_cmp x x = 0 := by
  unfold lg_cmp
  rw [if_neg (show ¬ x > x from Int64.lt_irrefl), if_pos rfl]
def lwL (a b : Int32) : Int64 := (a.toInt64 <<< ((32 : Int32).toInt64 &&& 63)) ||| (b.toInt64 &&& 4294967295)
theorem lw_long (kx : kX p s m args meth c cL_law 4 rr RL) (hX : va_X b n0 xs s s.heap) (hbl : b < s.heap.size) (hbA : ¬ A b) (hS : va_S A s.heap H locs) (hI : I + 4 ≤ n0) (hn : n0 ≤ 2048) (hl : lv_has ls 4 [(3, .int (nI I)), (2, .ref h7), (1, .ref h0), (0, .ref b)]) {pc k k2 : Nat} {kI kJ : Int} {v : Int64} (hk : k < 4) (hk2 : k2 < 4) (hkI : Int32.ofInt kI = nI k) (hkJ : Int32.ofInt kJ = nI k2) (hv : lwL (xs (I + k)) (xs (I + k2)) = v) (d0 : decode cL_law pc = .ok (.aload_n 0, 1)) (d1 : decode cL_law (pc + 1) = .ok (.iload_n 3, 1)) (d2 : decode cL_law (pc + 2) = .ok (.iconst kI, 1)) (d3 : decode cL_law (pc + 3) = .ok (.iadd, 1)) (d4 : decode cL_law (pc + 4) = .ok (.iaload, 1)) (d5 : decode cL_law (pc + 5) = .ok (.i2l, 1)) (d6 : decode cL_law (pc + 6) = .ok (.bipush 32, 2)) (d7 : decode cL_law (pc + 8) = .ok (.lshl, 1)) (d8 : decode cL_law (pc + 9) = .ok (.aload_n 0, 1)) (d9 : decode cL_law (pc + 10) = .ok (.iload_n 3, 1)) (d10 : decode cL_law (pc + 11) = .ok (.iconst kJ, 1)) (d11 : decode cL_law (pc + 12) = .ok (.iadd, 1)) (d12 : decode cL_law (pc + 13) = .ok (.iaload, 1)) (d13 : decode cL_law (pc + 14) = .ok (.i2l, 1)) (d14 : decode cL_law (pc + 15) = .ok (.ldc2_w 77, 3)) (d15 : decode cL_law (pc + 18) = .ok (.land, 1)) (d16 : decode cL_law (pc + 19) = .ok (.lor, 1))
    (kk : W p l e room_1 s m args below meth c H locs cells slots Qq (F0 m (pc + 20) ls (.long v :: rest))) : W p l e room_1 s m args below meth c H locs cells slots Qq (F0 m pc ls rest) := by
  have hx := kx.1
  have hb := kx.2.1
  refine lw_arg kx hX hbl hbA hS hI hn hl hk hkI rfl d0 d1 d2 d3 d4 ?_
  refine lv_i2l (v := (xs (I + k)).toInt64) hx hb d5 rfl ?_
  refine lv_bipush (v := 32) hx hb d6 (by decide) ?_
  refine lv_lshl (v := (xs (I + k)).toInt64 <<< ((32 : Int32).toInt64 &&& 63)) hx hb d7 rfl ?_
  refine lw_arg kx hX hbl hbA hS hI hn hl hk2 hkJ rfl d8 d9 d10 d11 d12 ?_
  refine lv_i2l (v := (xs (I + k2)).toInt64) hx hb d13 rfl ?_
  refine lv_ldc2 (v := 4294967295) hx hb kx.2.2.2.2.1 (kx.2.2.2.2.2.2 _ q_982) d14 ?_
  refine lv_land hx hb d15 ?_
  refine lv_lor hx hb d16 ?_
  rw [← hv] at kk
  exact kk
theorem lw_bool (kx : kX p s m args meth c cL_law 4 rr RL) (hX : va_X b n0 xs s s.heap) (hbl : b < s.heap.size) (hbA : ¬ A b) (hS : va_S A s.heap H locs) (hI : I + 4 ≤ n0) (hn : n0 ≤ 2048) (hl : lv_has ls 4 [(3, .int (nI I)), (2, .ref h7), (1, .ref h0), (0, .ref b)]) {pc k : Nat} {kI : Int} {v : Int32} (hk : k < 4) (hkI : Int32.ofInt kI = nI k) (hv : (if xs (I + k) = 0 then (0 : Int32) else 1) = v) (d0 : decode cL_law pc = .ok (.aload_n 0, 1)) (d1 : decode cL_law (pc + 1) = .ok (.iload_n 3, 1)) (d2 : decode cL_law (pc + 2) = .ok (.iconst kI, 1)) (d3 : decode cL_law (pc + 3) = .ok (.iadd, 1)) (d4 : decode cL_law (pc + 4) = .ok (.iaload, 1)) (d5 : decode cL_law (pc + 5) = .ok (.ifCond .eq 7, 3)) (d6 : decode cL_law (pc + 8) = .ok (.iconst 1, 1)) (d7 : decode cL_law (pc + 9) = .ok (.goto 4, 3)) (d8 : decode cL_law (pc + 12) = .ok (.iconst 0, 1))
    (kk : W p l e room_1 s m args below meth c H locs cells slots Qq (F0 m (pc + 13) ls (.int v :: rest))) : W p l e room_1 s m args below meth c H locs cells slots Qq (F0 m pc ls rest) := by
  have hx := kx.1
  have hb := kx.2.1
  refine lw_arg kx hX hbl hbA hS hI hn hl hk hkI rfl d0 d1 d2 d3 d4 ?_
  refine lv_if_eq (tgt := pc + 12) hx hb d5 (by omega) (fun c9 => ?_) (fun c9 => ?_)
  · rw [if_pos c9] at hv
    refine lv_iconst (v := v) hx hb d8 hv ?_
    exact kk
  · rw [if_neg c9] at hv
    refine lv_iconst (v := v) hx hb d6 hv ?_
    refine lv_goto (tgt := pc + 13) hx hb d7 (by omega) ?_
    exact kk
theorem kj4 {p0 : Int32} (h1 : ¬ p0 = 1) (h2 : ¬ p0 = 2) (h3 : ¬ p0 = 3) (h4 : ¬ p0 = 4) : r_X7_in p0.toInt64 1 4 = 0 := by
  refine (kin32 (a := 1) (b := 4) rfl rfl).mpr ?_
  by_cases a : p0 < 1
  · exact Or.inl a
  · by_cases bb : 4 < p0
    · exact Or.inr bb
    · obtain ⟨w, hw, rfl⟩ := knum (N := 4) (by decide) (fun q => a (Int32.lt_trans q (by decide))) bb
      rcases (show w = 0 ∨ w = 1 ∨ w = 2 ∨ w = 3 ∨ w = 4 by omega) with rfl | rfl | rfl | rfl | rfl
      · exact absurd (show nI 0 < 1 by decide) a
      · exact absurd rfl h1
      · exact absurd rfl h2
      · exact absurd rfl h3
      · exact absurd rfl h4

set_option maxHeartbeats 4000000 in
set_option maxRecDepth 100000 in
theorem lw_write (kx : kX p s m args meth c cL_law 4 rr RL) (hK : kK G s) (hX : va_X b n0 xs s s.heap) (hbl : b < s.heap.size) (hbA : ¬ A b) (hA : ∀ q, s.heap.size ≤ q → A q) (hf : cells ≤ room_1.cells ∧ slots ≤ room_1.slots) (hS : va_S A s.heap H locs) (hI : I + 4 ≤ n0) (hn : n0 ≤ 2048) (hl : lv_has ls 4 [(3, .int (nI I)), (2, .ref h7), (1, .ref h0), (0, .ref b)]) (hs : lwS G n9 A h0 t0 t1 b0 s0 i0 e0 e1 e2 e3 aN aT aS0 aS1 aB h7 uq H) (next : ∀ (H1 : Heap) (locs1 : List Loc), lwS G n9 A h0 t0 t1 b0 s0 i0 e0 e1 e2 e3 aN aT aS0 aS1 aB h7 uq H1 → va_S A s.heap H1 locs1 → W p l e room_1 s m args below meth c H1 locs1 cells slots Qq (F0 m 903 ls [])) : W p l e room_1 s m args below meth c H locs cells slots Qq (F0 m 152 ls []) := by
  have hx := kx.1
  have hb := kx.2.1
  obtain ⟨d, sd, pi, L, sg, ik, z, tk, en, mo, gN, gT, gS0, gS1, gB, Z, tx, rp, re, pg, tr, bk, kp, jk, sa, se, sm, hR, hP, hD⟩ := hs
  obtain ⟨p0, g0⟩ : ∃ v, xs (I + 1) = v := ⟨_, rfl⟩
  obtain ⟨n14, bd, cL, ez, ⟨f1, f2, f3⟩, hw, hB, htx, hk, hv⟩ := id hR
  obtain ⟨ea, L1, st_tx, hR1⟩ := st_write hR p0
  refine lv_aload_n hx hb dL_law_152 rfl (lv_at hl 2 rfl) ?_
  refine lw_arg kx hX hbl hbA hS hI hn hl (k := 1) (by decide) rfl g0 dL_law_153 dL_law_154 dL_law_155 dL_law_156 dL_law_157 ?_
  refine k_calli (kRunV (As := [.int p0]) (rest := []) kx (c_X6_write l G (nI d) sd h0 t0 aN aT b0 s0 i0 e0 L sg t1 p0 cL) q_294 q_291 q_29 q_292 q_293 nX6_write ⟨Nat.le_of_ble_eq_true rfl, Nat.le_of_ble_eq_true rfl⟩ hK hP hD (kPm_left (kPm_left (kPm_keep (kPm_keep (kPm_keep (kPm_none _)))))).ctx 0 6 rfl rfl rfl rfl hl.1 (Nat.le_of_ble_eq_true rfl) dL_law_158 hf) hP hD hS hA (kPm_left (kPm_left (kPm_keep (kPm_keep (kPm_keep (kPm_none _)))))).ctx (fun _ => rfl) (fun r1 u1 H1 locs1 hw1 hP1 hD1 hS1 => ?_)
  obtain ⟨tx6, sg6⟩ := u1
  obtain ⟨er1, wtx6, wsg6⟩ := hw1
  have wtx6 : tx6 = kc (nI L1) := (show tx6 = _ from wtx6).trans st_tx
  subst wtx6
  have hP1 : va_P G.1 vwCl (cAll G n9 d sd h0 t0 t1 b0 s0 i0 e0 e1 e2 e3 aN aT aS0 aS1 pi aB L1 sg6 ik z tk en mo gN gT gS0 gS1 gB ++ mAll G Z sd h7 uq tx rp re pg tr bk kp jk sa se sm) H1 := hP1
  have hD1 : va_D A (cAll G n9 d sd h0 t0 t1 b0 s0 i0 e0 e1 e2 e3 aN aT aS0 aS1 pi aB L1 sg6 ik z tk en mo gN gT gS0 gS1 gB ++ mAll G Z sd h7 uq tx rp re pg tr bk kp jk sa se sm) := hD1
  rw [← show _ = _ from wsg6] at hR1
  refine lv_aload_n hx hb dL_law_161 rfl (lv_at hl 1 rfl) ?_
  refine lw_arg kx hX hbl hbA hS1 hI hn hl (k := 1) (by decide) rfl g0 dL_law_162 dL_law_163 dL_law_164 dL_law_165 dL_law_166 ?_
  have cz := c_X7_write l G Z L sd h7 (uq 1) (uq 2) (uq 3) (uq 4) (uq 5) (uq 6) (uq 7) (uq 8) (uq 9) (uq 10) (uq 11) tx p0 cL
  rw [kupd_same f1] at cz
  try rw [kupd_same f1] at hR1
  try rw [kupd_same f1] at ea
  refine k_calli (kRunV (As := [.int p0]) (rest := [.int r1]) kx cz q_736 q_733 q_36 q_734 q_735 nX7_write ⟨Nat.le_of_ble_eq_true rfl, Nat.le_of_ble_eq_true rfl⟩ hK hP1 hD1 (kPm_skipB (kPm_keep (kPm_keep (kPm_none _)))).ctx 0 7 rfl rfl rfl rfl hl.1 (Nat.le_of_ble_eq_true rfl) dL_law_167 hf) hP1 hD1 hS1 hA (kPm_skipB (kPm_keep (kPm_keep (kPm_none _)))).ctx (fun _ => rfl) (fun r2 u2 H2 locs2 hw2 hP2 hD2 hS2 => ?_)
  obtain ⟨Z7, tx7⟩ := u2
  obtain ⟨er2, wZ7, wtx7⟩ := hw2
  rw [← show _ = _ from wZ7] at hR1
  rw [← show _ = _ from wtx7] at hR1
  have hP2 : va_P G.1 vwCl (cAll G n9 d sd h0 t0 t1 b0 s0 i0 e0 e1 e2 e3 aN aT aS0 aS1 pi aB L1 sg6 ik z tk en mo gN gT gS0 gS1 gB ++ mAll G Z7 sd h7 uq tx7 rp re pg tr bk kp jk sa se sm) H2 := hP2
  have hD2 : va_D A (cAll G n9 d sd h0 t0 t1 b0 s0 i0 e0 e1 e2 e3 aN aT aS0 aS1 pi aB L1 sg6 ik z tk en mo gN gT gS0 gS1 gB ++ mAll G Z7 sd h7 uq tx7 rp re pg tr bk kp jk sa se sm) := hD2
  refine lv_icmp_eq (tgt := 903) hx hb dL_law_170 (by decide) (fun _ => next _ _ ⟨_, _, _, _, _, _, _, _, _, _, _, _, _, _, _, _, _, _, _, _, _, _, _, _, _, _, _, hR1, hP2, hD2⟩ hS2) (fun c9 => absurd ((show r1 = _ from er1).trans (ea.trans (show r2 = _ from er2).symm)) c9)
set_option maxHeartbeats 4000000 in
set_option maxRecDepth 100000 in
theorem lw_wipe (kx : kX p s m args meth c cL_law 4 rr RL) (hK : kK G s) (hX : va_X b n0 xs s s.heap) (hbl : b < s.heap.size) (hbA : ¬ A b) (hA : ∀ q, s.heap.size ≤ q → A q) (hf : cells ≤ room_1.cells ∧ slots ≤ room_1.slots) (hS : va_S A s.heap H locs) (hI : I + 4 ≤ n0) (hn : n0 ≤ 2048) (hl : lv_has ls 4 [(3, .int (nI I)), (2, .ref h7), (1, .ref h0), (0, .ref b)]) (hs : lwS G n9 A h0 t0 t1 b0 s0 i0 e0 e1 e2 e3 aN aT aS0 aS1 aB h7 uq H) (next : ∀ (H1 : Heap) (locs1 : List Loc), lwS G n9 A h0 t0 t1 b0 s0 i0 e0 e1 e2 e3 aN aT aS0 aS1 aB h7 uq H1 → va_S A s.heap H1 locs1 → W p l e room_1 s m args below meth c H1 locs1 cells slots Qq (F0 m 903 ls [])) : W p l e room_1 s m args below meth c H locs cells slots Qq (F0 m 175 ls []) := by
  have hx := kx.1
  have hb := kx.2.1
  obtain ⟨d, sd, pi, L, sg, ik, z, tk, en, mo, gN, gT, gS0, gS1, gB, Z, tx, rp, re, pg, tr, bk, kp, jk, sa, se, sm, hR, hP, hD⟩ := hs
  obtain ⟨n14, bd, cL, ez, ⟨f1, f2, f3⟩, hw, hB, htx, hk, hv⟩ := id hR
  obtain ⟨ea, hR1⟩ := st_wipe hR
  refine lv_aload_n hx hb dL_law_175 rfl (lv_at hl 2 rfl) ?_
  refine k_calli (kRunV (As := []) (rest := []) kx (c_X6_wipe l G (nI d) sd h0 t0 aN aT b0 s0 i0 e0 L sg t1) q_302 q_299 q_29 q_300 q_301 nX6_wipe ⟨Nat.le_of_ble_eq_true rfl, Nat.le_of_ble_eq_true rfl⟩ hK hP hD (kPm_left (kPm_left (kPm_keep (kPm_keep (kPm_keep (kPm_none _)))))).ctx 0 6 rfl rfl rfl rfl hl.1 (Nat.le_of_ble_eq_true rfl) dL_law_176 hf) hP hD hS hA (kPm_left (kPm_left (kPm_keep (kPm_keep (kPm_keep (kPm_none _)))))).ctx (fun _ => rfl) (fun r1 u1 H1 locs1 hw1 hP1 hD1 hS1 => ?_)
  have er1 := hw1
  have hP1 : va_P G.1 vwCl (cAll G n9 d sd h0 t0 t1 b0 s0 i0 e0 e1 e2 e3 aN aT aS0 aS1 pi aB 0 sg ik z tk en mo gN gT gS0 gS1 gB ++ mAll G Z sd h7 uq tx rp re pg tr bk kp jk sa se sm) H1 := hP1
  have hD1 : va_D A (cAll G n9 d sd h0 t0 t1 b0 s0 i0 e0 e1 e2 e3 aN aT aS0 aS1 pi aB 0 sg ik z tk en mo gN gT gS0 gS1 gB ++ mAll G Z sd h7 uq tx rp re pg tr bk kp jk sa se sm) := hD1
  refine lv_aload_n hx hb dL_law_179 rfl (lv_at hl 1 rfl) ?_
  have cz := c_X7_wipe l G Z sd h7 (uq 1) (uq 2) (uq 3) (uq 4) (uq 5) (uq 6) (uq 7) (uq 8) (uq 9) (uq 10) (uq 11)
  refine k_calli (kRunV (As := []) (rest := [.int r1]) kx cz q_744 q_741 q_36 q_742 q_743 nX7_wipe ⟨Nat.le_of_ble_eq_true rfl, Nat.le_of_ble_eq_true rfl⟩ hK hP1 hD1 (kPm_skipB (kPm_keep (kPm_none _))).ctx 0 7 rfl rfl rfl rfl hl.1 (Nat.le_of_ble_eq_true rfl) dL_law_180 hf) hP1 hD1 hS1 hA (kPm_skipB (kPm_keep (kPm_none _))).ctx (fun _ => rfl) (fun r2 u2 H2 locs2 hw2 hP2 hD2 hS2 => ?_)
  have er2 := hw2
  have hP2 : va_P G.1 vwCl (cAll G n9 d sd h0 t0 t1 b0 s0 i0 e0 e1 e2 e3 aN aT aS0 aS1 pi aB 0 sg ik z tk en mo gN gT gS0 gS1 gB ++ mAll G (upd (upd Z 0 0) 2 0) sd h7 uq tx rp re pg tr bk kp jk sa se sm) H2 := hP2
  have hD2 : va_D A (cAll G n9 d sd h0 t0 t1 b0 s0 i0 e0 e1 e2 e3 aN aT aS0 aS1 pi aB 0 sg ik z tk en mo gN gT gS0 gS1 gB ++ mAll G (upd (upd Z 0 0) 2 0) sd h7 uq tx rp re pg tr bk kp jk sa se sm) := hD2
  refine lv_icmp_eq (tgt := 903) hx hb dL_law_183 (by decide) (fun _ => next _ _ ⟨_, _, _, _, _, _, _, _, _, _, _, _, _, _, _, _, _, _, _, _, _, _, _, _, _, _, _, hR1, hP2, hD2⟩ hS2) (fun c9 => absurd ((show r1 = _ from er1).trans (ea.trans (show r2 = _ from er2).symm)) c9)
set_option maxHeartbeats 4000000 in
set_option maxRecDepth 100000 in
theorem lw_fault (kx : kX p s m args meth c cL_law 4 rr RL) (hK : kK G s) (hX : va_X b n0 xs s s.heap) (hbl : b < s.heap.size) (hbA : ¬ A b) (hA : ∀ q, s.heap.size ≤ q → A q) (hf : cells ≤ room_1.cells ∧ slots ≤ room_1.slots) (hS : va_S A s.heap H locs) (hI : I + 4 ≤ n0) (hn : n0 ≤ 2048) (hl : lv_has ls 4 [(3, .int (nI I)), (2, .ref h7), (1, .ref h0), (0, .ref b)]) (hs : lwS G n9 A h0 t0 t1 b0 s0 i0 e0 e1 e2 e3 aN aT aS0 aS1 aB h7 uq H) (next : ∀ (H1 : Heap) (locs1 : List Loc), lwS G n9 A h0 t0 t1 b0 s0 i0 e0 e1 e2 e3 aN aT aS0 aS1 aB h7 uq H1 → va_S A s.heap H1 locs1 → W p l e room_1 s m args below meth c H1 locs1 cells slots Qq (F0 m 903 ls [])) : W p l e room_1 s m args below meth c H locs cells slots Qq (F0 m 188 ls []) := by
  have hx := kx.1
  have hb := kx.2.1
  obtain ⟨d, sd, pi, L, sg, ik, z, tk, en, mo, gN, gT, gS0, gS1, gB, Z, tx, rp, re, pg, tr, bk, kp, jk, sa, se, sm, hR, hP, hD⟩ := hs
  obtain ⟨n14, bd, cL, ez, ⟨f1, f2, f3⟩, hw, hB, htx, hk, hv⟩ := id hR
  obtain ⟨ea, hR1⟩ := st_faulty hR re
  refine lv_aload_n hx hb dL_law_188 rfl (lv_at hl 2 rfl) ?_
  refine k_calli (kRunV (As := []) (rest := []) kx (c_X6_fault l G (nI d) sd h0 t0 aN aT b0 s0 i0 e0 L sg t1 cL) q_306 q_303 q_29 q_304 q_305 nX6_fault ⟨Nat.le_of_ble_eq_true rfl, Nat.le_of_ble_eq_true rfl⟩ hK hP hD (kPm_left (kPm_left (kPm_keep (kPm_keep (kPm_keep (kPm_none _)))))).ctx 0 6 rfl rfl rfl rfl hl.1 (Nat.le_of_ble_eq_true rfl) dL_law_189 hf) hP hD hS hA (kPm_left (kPm_left (kPm_keep (kPm_keep (kPm_keep (kPm_none _)))))).ctx (fun _ => rfl) (fun r1 u1 H1 locs1 hw1 hP1 hD1 hS1 => ?_)
  have er1 := hw1
  have hP1 : va_P G.1 vwCl (cAll G n9 d sd h0 t0 t1 b0 s0 i0 e0 e1 e2 e3 aN aT aS0 aS1 pi aB L sg ik z tk en mo gN gT gS0 gS1 gB ++ mAll G Z sd h7 uq tx rp re pg tr bk kp jk sa se sm) H1 := hP1
  have hD1 : va_D A (cAll G n9 d sd h0 t0 t1 b0 s0 i0 e0 e1 e2 e3 aN aT aS0 aS1 pi aB L sg ik z tk en mo gN gT gS0 gS1 gB ++ mAll G Z sd h7 uq tx rp re pg tr bk kp jk sa se sm) := hD1
  refine lv_aload_n hx hb dL_law_192 rfl (lv_at hl 1 rfl) ?_
  have cz := c_X7_fault l G Z L sd h7 (uq 1) (uq 2) (uq 3) (uq 4) (uq 5) (uq 6) (uq 7) (uq 8) (uq 9) (uq 10) (uq 11) tx rp re cL
  rw [kupd_same f1] at cz
  try rw [kupd_same f1] at hR1
  try rw [kupd_same f1] at ea
  refine k_calli (kRunV (As := []) (rest := [.int r1]) kx cz q_748 q_745 q_36 q_746 q_747 nX7_fault ⟨Nat.le_of_ble_eq_true rfl, Nat.le_of_ble_eq_true rfl⟩ hK hP1 hD1 (kPm_skipB (kPm_keep (kPm_keep (kPm_keep (kPm_keep (kPm_none _)))))).ctx 0 7 rfl rfl rfl rfl hl.1 (Nat.le_of_ble_eq_true rfl) dL_law_193 hf) hP1 hD1 hS1 hA (kPm_skipB (kPm_keep (kPm_keep (kPm_keep (kPm_keep (kPm_none _)))))).ctx (fun _ => rfl) (fun r2 u2 H2 locs2 hw2 hP2 hD2 hS2 => ?_)
  have er2 := hw2
  have hP2 : va_P G.1 vwCl (cAll G n9 d sd h0 t0 t1 b0 s0 i0 e0 e1 e2 e3 aN aT aS0 aS1 pi aB L sg ik z tk en mo gN gT gS0 gS1 gB ++ mAll G (s_X7_readLink_Z (upd Z 0 0) L tx re) sd h7 uq tx (s_X7_readLink_rp L tx rp re) (s_X7_readLink_re L tx re) pg tr bk kp jk sa se sm) H2 := hP2
  have hD2 : va_D A (cAll G n9 d sd h0 t0 t1 b0 s0 i0 e0 e1 e2 e3 aN aT aS0 aS1 pi aB L sg ik z tk en mo gN gT gS0 gS1 gB ++ mAll G (s_X7_readLink_Z (upd Z 0 0) L tx re) sd h7 uq tx (s_X7_readLink_rp L tx rp re) (s_X7_readLink_re L tx re) pg tr bk kp jk sa se sm) := hD2
  refine lv_icmp_eq (tgt := 903) hx hb dL_law_196 (by decide) (fun _ => next _ _ ⟨_, _, _, _, _, _, _, _, _, _, _, _, _, _, _, _, _, _, _, _, _, _, _, _, _, _, _, hR1, hP2, hD2⟩ hS2) (fun c9 => absurd ((show r1 = _ from er1).trans (ea.trans (show r2 = _ from er2).symm)) c9)
set_option maxHeartbeats 4000000 in
set_option maxRecDepth 100000 in
theorem lw_link (kx : kX p s m args meth c cL_law 4 rr RL) (hK : kK G s) (hX : va_X b n0 xs s s.heap) (hbl : b < s.heap.size) (hbA : ¬ A b) (hA : ∀ q, s.heap.size ≤ q → A q) (hf : cells ≤ room_1.cells ∧ slots ≤ room_1.slots) (hS : va_S A s.heap H locs) (hI : I + 4 ≤ n0) (hn : n0 ≤ 2048) (hl : lv_has ls 4 [(3, .int (nI I)), (2, .ref h7), (1, .ref h0), (0, .ref b)]) (hs : lwS G n9 A h0 t0 t1 b0 s0 i0 e0 e1 e2 e3 aN aT aS0 aS1 aB h7 uq H) (next : ∀ (H1 : Heap) (locs1 : List Loc), lwS G n9 A h0 t0 t1 b0 s0 i0 e0 e1 e2 e3 aN aT aS0 aS1 aB h7 uq H1 → va_S A s.heap H1 locs1 → W p l e room_1 s m args below meth c H1 locs1 cells slots Qq (F0 m 903 ls [])) : W p l e room_1 s m args below meth c H locs cells slots Qq (F0 m 201 ls []) := by
  have hx := kx.1
  have hb := kx.2.1
  obtain ⟨d, sd, pi, L, sg, ik, z, tk, en, mo, gN, gT, gS0, gS1, gB, Z, tx, rp, re, pg, tr, bk, kp, jk, sa, se, sm, hR, hP, hD⟩ := hs
  obtain ⟨n14, bd, cL, ez, ⟨f1, f2, f3⟩, hw, hB, htx, hk, hv⟩ := id hR
  obtain ⟨ea, d1, st_ac, hR1⟩ := st_link hR rp re
  refine lv_aload_n hx hb dL_law_201 rfl (lv_at hl 2 rfl) ?_
  refine k_calli (kRunV (As := []) (rest := []) kx (c_X6_link l G (nI d) sd h0 t0 aN aT b0 s0 i0 e0 L sg t1 gN ik cL) q_320 q_317 q_29 q_318 q_319 nX6_link ⟨Nat.le_of_ble_eq_true rfl, Nat.le_of_ble_eq_true rfl⟩ hK hP hD (kPm_left (kPm_app (kPm_keep (kPm_keep (kPm_keep (kPm_skip (kPm_skip (kPm_keep (kPm_none _))))))) (kPm_left (kPm_all _)))).ctx 0 6 rfl rfl rfl rfl hl.1 (Nat.le_of_ble_eq_true rfl) dL_law_202 hf) hP hD hS hA (kPm_left (kPm_app (kPm_keep (kPm_keep (kPm_keep (kPm_skip (kPm_skip (kPm_keep (kPm_none _))))))) (kPm_left (kPm_all _)))).ctx (fun _ => rfl) (fun r1 u1 H1 locs1 hw1 hP1 hD1 hS1 => ?_)
  obtain ⟨gN6, ac6, ik6⟩ := u1
  obtain ⟨er1, wgN6, wac6, wik6⟩ := hw1
  have wac6 : ac6 = kc (nI d1) := (show ac6 = _ from wac6).trans st_ac
  subst wac6
  have hP1 : va_P G.1 vwCl (cAll G n9 d1 sd h0 t0 t1 b0 s0 i0 e0 e1 e2 e3 aN aT aS0 aS1 pi aB L sg ik6 z tk en mo gN6 gT gS0 gS1 gB ++ mAll G Z sd h7 uq tx rp re pg tr bk kp jk sa se sm) H1 := hP1
  have hD1 : va_D A (cAll G n9 d1 sd h0 t0 t1 b0 s0 i0 e0 e1 e2 e3 aN aT aS0 aS1 pi aB L sg ik6 z tk en mo gN6 gT gS0 gS1 gB ++ mAll G Z sd h7 uq tx rp re pg tr bk kp jk sa se sm) := hD1
  rw [← show _ = _ from wgN6] at hR1
  rw [← show _ = _ from wik6] at hR1
  refine lv_aload_n hx hb dL_law_205 rfl (lv_at hl 1 rfl) ?_
  have cz := c_X7_link l G Z L sd h7 (uq 1) (uq 2) (uq 3) (uq 4) (uq 5) (uq 6) (uq 7) (uq 8) (uq 9) (uq 10) (uq 11) tx rp re pg tr jk cL
  rw [kupd_same f1] at cz
  try rw [kupd_same f1] at hR1
  try rw [kupd_same f1] at ea
  refine k_calli (kRunV (As := []) (rest := [.int r1]) kx cz q_767 q_764 q_36 q_765 q_766 nX7_link ⟨Nat.le_of_ble_eq_true rfl, Nat.le_of_ble_eq_true rfl⟩ hK hP1 hD1 (kPm_skipB (kPm_keep (kPm_keep (kPm_keep (kPm_keep (kPm_keep (kPm_keep (kPm_skip (kPm_skip (kPm_keep (kPm_none _))))))))))).ctx 0 7 rfl rfl rfl rfl hl.1 (Nat.le_of_ble_eq_true rfl) dL_law_206 hf) hP1 hD1 hS1 hA (kPm_skipB (kPm_keep (kPm_keep (kPm_keep (kPm_keep (kPm_keep (kPm_keep (kPm_skip (kPm_skip (kPm_keep (kPm_none _))))))))))).ctx (fun _ => rfl) (fun r2 u2 H2 locs2 hw2 hP2 hD2 hS2 => ?_)
  obtain ⟨Z7, rp7, re7, pg7, tr7, ik7⟩ := u2
  obtain ⟨er2, wZ7, wrp7, wre7, wpg7, wtr7, wik7⟩ := hw2
  rw [← show _ = _ from wZ7] at hR1
  rw [← show _ = _ from wpg7] at hR1
  rw [← show _ = _ from wik7] at hR1
  have hP2 : va_P G.1 vwCl (cAll G n9 d1 sd h0 t0 t1 b0 s0 i0 e0 e1 e2 e3 aN aT aS0 aS1 pi aB L sg ik6 z tk en mo gN6 gT gS0 gS1 gB ++ mAll G Z7 sd h7 uq tx rp7 re7 pg7 tr7 bk kp ik7 sa se sm) H2 := hP2
  have hD2 : va_D A (cAll G n9 d1 sd h0 t0 t1 b0 s0 i0 e0 e1 e2 e3 aN aT aS0 aS1 pi aB L sg ik6 z tk en mo gN6 gT gS0 gS1 gB ++ mAll G Z7 sd h7 uq tx rp7 re7 pg7 tr7 bk kp ik7 sa se sm) := hD2
  refine lv_icmp_eq (tgt := 903) hx hb dL_law_209 (by decide) (fun _ => next _ _ ⟨_, _, _, _, _, _, _, _, _, _, _, _, _, _, _, _, _, _, _, _, _, _, _, _, _, _, _, hR1, hP2, hD2⟩ hS2) (fun c9 => absurd ((show r1 = _ from er1).trans (ea.trans (show r2 = _ from er2).symm)) c9)
set_option maxHeartbeats 4000000 in
set_option maxRecDepth 100000 in
theorem lw_end (kx : kX p s m args meth c cL_law 4 rr RL) (hK : kK G s) (hX : va_X b n0 xs s s.heap) (hbl : b < s.heap.size) (hbA : ¬ A b) (hA : ∀ q, s.heap.size ≤ q → A q) (hf : cells ≤ room_1.cells ∧ slots ≤ room_1.slots) (hS : va_S A s.heap H locs) (hI : I + 4 ≤ n0) (hn : n0 ≤ 2048) (hl : lv_has ls 4 [(3, .int (nI I)), (2, .ref h7), (1, .ref h0), (0, .ref b)]) (hs : lwS G n9 A h0 t0 t1 b0 s0 i0 e0 e1 e2 e3 aN aT aS0 aS1 aB h7 uq H) (next : ∀ (H1 : Heap) (locs1 : List Loc), lwS G n9 A h0 t0 t1 b0 s0 i0 e0 e1 e2 e3 aN aT aS0 aS1 aB h7 uq H1 → va_S A s.heap H1 locs1 → W p l e room_1 s m args below meth c H1 locs1 cells slots Qq (F0 m 903 ls [])) : W p l e room_1 s m args below meth c H locs cells slots Qq (F0 m 214 ls []) := by
  have hx := kx.1
  have hb := kx.2.1
  obtain ⟨d, sd, pi, L, sg, ik, z, tk, en, mo, gN, gT, gS0, gS1, gB, Z, tx, rp, re, pg, tr, bk, kp, jk, sa, se, sm, hR, hP, hD⟩ := hs
  obtain ⟨p0, g0⟩ : ∃ v, xs (I + 1) = v := ⟨_, rfl⟩
  obtain ⟨p1, g1⟩ : ∃ v, xs (I + 2) = v := ⟨_, rfl⟩
  by_cases c0 : p0 = 0
  · subst c0
    obtain ⟨n14, bd, cL, ez, ⟨f1, f2, f3⟩, hw, hB, htx, hk, hv⟩ := id hR
    obtain ⟨ea, hR1⟩ := st_end_0 hR tr p1
    refine lv_aload_n hx hb dL_law_214 rfl (lv_at hl 2 rfl) ?_
    refine lw_arg kx hX hbl hbA hS hI hn hl (k := 1) (by decide) rfl g0 dL_law_215 dL_law_216 dL_law_217 dL_law_218 dL_law_219 ?_
    refine lw_arg kx hX hbl hbA hS hI hn hl (k := 2) (by decide) rfl g1 dL_law_220 dL_law_221 dL_law_222 dL_law_223 dL_law_224 ?_
    refine k_calli (kRunV (As := [.int 0, .int p1]) (rest := []) kx (c_X6_end l G (nI d) sd h0 t0 aN aT b0 s0 i0 e0 gN gT 0 p1 hw.2.2.2.2.2.1) q_428 q_425 q_29 q_426 q_427 nX6_end ⟨Nat.le_of_ble_eq_true rfl, Nat.le_of_ble_eq_true rfl⟩ hK hP hD (kPm_left (kPm_app (kPm_keep (kPm_none _)) (kPm_keepB (kPm_left (kPm_all _))))).ctx 0 6 rfl rfl rfl rfl hl.1 (Nat.le_of_ble_eq_true rfl) dL_law_225 hf) hP hD hS hA (kPm_left (kPm_app (kPm_keep (kPm_none _)) (kPm_keepB (kPm_left (kPm_all _))))).ctx (fun _ => rfl) (fun r1 u1 H1 locs1 hw1 hP1 hD1 hS1 => ?_)
    obtain ⟨gT6, rfl⟩ : ∃ w, w = u1 := ⟨_, rfl⟩
    obtain ⟨er1, wgT6⟩ := hw1
    have hP1 : va_P G.1 vwCl (cAll G n9 d sd h0 t0 t1 b0 s0 i0 e0 e1 e2 e3 aN aT aS0 aS1 pi aB L sg ik z tk en mo gN gT6 gS0 gS1 gB ++ mAll G Z sd h7 uq tx rp re pg tr bk kp jk sa se sm) H1 := hP1
    have hD1 : va_D A (cAll G n9 d sd h0 t0 t1 b0 s0 i0 e0 e1 e2 e3 aN aT aS0 aS1 pi aB L sg ik z tk en mo gN gT6 gS0 gS1 gB ++ mAll G Z sd h7 uq tx rp re pg tr bk kp jk sa se sm) := hD1
    refine lv_aload_n hx hb dL_law_228 rfl (lv_at hl 1 rfl) ?_
    refine lw_arg kx hX hbl hbA hS1 hI hn hl (k := 1) (by decide) rfl g0 dL_law_229 dL_law_230 dL_law_231 dL_law_232 dL_law_233 ?_
    refine lw_arg kx hX hbl hbA hS1 hI hn hl (k := 2) (by decide) rfl g1 dL_law_234 dL_law_235 dL_law_236 dL_law_237 dL_law_238 ?_
    have cz := c_X7_end_0 l G Z sd h7 (uq 1) (uq 2) (uq 3) (uq 4) (uq 5) (uq 6) (uq 7) (uq 8) (uq 9) (uq 10) (uq 11) pg tr p1
    refine k_calli (kRunV (As := [.int 0, .int p1]) (rest := [.int r1]) kx cz q_821 q_818 q_36 q_819 q_820 nX7_end ⟨Nat.le_of_ble_eq_true rfl, Nat.le_of_ble_eq_true rfl⟩ hK hP1 hD1 (kPm_skipB (kPm_keep (kPm_skip (kPm_skip (kPm_skip (kPm_keep (kPm_keep (kPm_none _)))))))).ctx 0 7 rfl rfl rfl rfl hl.1 (Nat.le_of_ble_eq_true rfl) dL_law_239 hf) hP1 hD1 hS1 hA (kPm_skipB (kPm_keep (kPm_skip (kPm_skip (kPm_skip (kPm_keep (kPm_keep (kPm_none _)))))))).ctx (fun _ => rfl) (fun r2 u2 H2 locs2 hw2 hP2 hD2 hS2 => ?_)
    obtain ⟨Z7, tr7⟩ := u2
    obtain ⟨er2, wZ7, wtr7⟩ := hw2
    rw [← show _ = _ from wZ7] at hR1
    have hP2 : va_P G.1 vwCl (cAll G n9 d sd h0 t0 t1 b0 s0 i0 e0 e1 e2 e3 aN aT aS0 aS1 pi aB L sg ik z tk en mo gN gT6 gS0 gS1 gB ++ mAll G Z7 sd h7 uq tx rp re pg tr7 bk kp jk sa se sm) H2 := hP2
    have hD2 : va_D A (cAll G n9 d sd h0 t0 t1 b0 s0 i0 e0 e1 e2 e3 aN aT aS0 aS1 pi aB L sg ik z tk en mo gN gT6 gS0 gS1 gB ++ mAll G Z7 sd h7 uq tx rp re pg tr7 bk kp jk sa se sm) := hD2
    refine lv_icmp_eq (tgt := 903) hx hb dL_law_242 (by decide) (fun _ => next _ _ ⟨_, _, _, _, _, _, _, _, _, _, _, _, _, _, _, _, _, _, _, _, _, _, _, _, _, _, _, hR1, hP2, hD2⟩ hS2) (fun c9 => absurd ((show r1 = _ from er1).trans (ea.trans (show r2 = _ from er2).symm)) c9)
  · by_cases c1 : p0 = 1
    · subst c1
      obtain ⟨n14, bd, cL, ez, ⟨f1, f2, f3⟩, hw, hB, htx, hk, hv⟩ := id hR
      obtain ⟨ea, hR1⟩ := st_end_1 hR tr p1
      refine lv_aload_n hx hb dL_law_214 rfl (lv_at hl 2 rfl) ?_
      refine lw_arg kx hX hbl hbA hS hI hn hl (k := 1) (by decide) rfl g0 dL_law_215 dL_law_216 dL_law_217 dL_law_218 dL_law_219 ?_
      refine lw_arg kx hX hbl hbA hS hI hn hl (k := 2) (by decide) rfl g1 dL_law_220 dL_law_221 dL_law_222 dL_law_223 dL_law_224 ?_
      refine k_calli (kRunV (As := [.int 1, .int p1]) (rest := []) kx (c_X6_end l G (nI d) sd h0 t0 aN aT b0 s0 i0 e0 gN gT 1 p1 hw.2.2.2.2.2.1) q_428 q_425 q_29 q_426 q_427 nX6_end ⟨Nat.le_of_ble_eq_true rfl, Nat.le_of_ble_eq_true rfl⟩ hK hP hD (kPm_left (kPm_app (kPm_keep (kPm_none _)) (kPm_keepB (kPm_left (kPm_all _))))).ctx 0 6 rfl rfl rfl rfl hl.1 (Nat.le_of_ble_eq_true rfl) dL_law_225 hf) hP hD hS hA (kPm_left (kPm_app (kPm_keep (kPm_none _)) (kPm_keepB (kPm_left (kPm_all _))))).ctx (fun _ => rfl) (fun r1 u1 H1 locs1 hw1 hP1 hD1 hS1 => ?_)
      obtain ⟨gT6, rfl⟩ : ∃ w, w = u1 := ⟨_, rfl⟩
      obtain ⟨er1, wgT6⟩ := hw1
      have hP1 : va_P G.1 vwCl (cAll G n9 d sd h0 t0 t1 b0 s0 i0 e0 e1 e2 e3 aN aT aS0 aS1 pi aB L sg ik z tk en mo gN gT6 gS0 gS1 gB ++ mAll G Z sd h7 uq tx rp re pg tr bk kp jk sa se sm) H1 := hP1
      have hD1 : va_D A (cAll G n9 d sd h0 t0 t1 b0 s0 i0 e0 e1 e2 e3 aN aT aS0 aS1 pi aB L sg ik z tk en mo gN gT6 gS0 gS1 gB ++ mAll G Z sd h7 uq tx rp re pg tr bk kp jk sa se sm) := hD1
      refine lv_aload_n hx hb dL_law_228 rfl (lv_at hl 1 rfl) ?_
      refine lw_arg kx hX hbl hbA hS1 hI hn hl (k := 1) (by decide) rfl g0 dL_law_229 dL_law_230 dL_law_231 dL_law_232 dL_law_233 ?_
      refine lw_arg kx hX hbl hbA hS1 hI hn hl (k := 2) (by decide) rfl g1 dL_law_234 dL_law_235 dL_law_236 dL_law_237 dL_law_238 ?_
      have cz := c_X7_end_1 l G Z sd h7 (uq 1) (uq 2) (uq 3) (uq 4) (uq 5) (uq 6) (uq 7) (uq 8) (uq 9) (uq 10) (uq 11) pg tr p1
      refine k_calli (kRunV (As := [.int 1, .int p1]) (rest := [.int r1]) kx cz q_821 q_818 q_36 q_819 q_820 nX7_end ⟨Nat.le_of_ble_eq_true rfl, Nat.le_of_ble_eq_true rfl⟩ hK hP1 hD1 (kPm_skipB (kPm_keep (kPm_skip (kPm_skip (kPm_skip (kPm_keep (kPm_keep (kPm_none _)))))))).ctx 0 7 rfl rfl rfl rfl hl.1 (Nat.le_of_ble_eq_true rfl) dL_law_239 hf) hP1 hD1 hS1 hA (kPm_skipB (kPm_keep (kPm_skip (kPm_skip (kPm_skip (kPm_keep (kPm_keep (kPm_none _)))))))).ctx (fun _ => rfl) (fun r2 u2 H2 locs2 hw2 hP2 hD2 hS2 => ?_)
      obtain ⟨Z7, tr7⟩ := u2
      obtain ⟨er2, wZ7, wtr7⟩ := hw2
      rw [← show _ = _ from wZ7] at hR1
      have hP2 : va_P G.1 vwCl (cAll G n9 d sd h0 t0 t1 b0 s0 i0 e0 e1 e2 e3 aN aT aS0 aS1 pi aB L sg ik z tk en mo gN gT6 gS0 gS1 gB ++ mAll G Z7 sd h7 uq tx rp re pg tr7 bk kp jk sa se sm) H2 := hP2
      have hD2 : va_D A (cAll G n9 d sd h0 t0 t1 b0 s0 i0 e0 e1 e2 e3 aN aT aS0 aS1 pi aB L sg ik z tk en mo gN gT6 gS0 gS1 gB ++ mAll G Z7 sd h7 uq tx rp re pg tr7 bk kp jk sa se sm) := hD2
      refine lv_icmp_eq (tgt := 903) hx hb dL_law_242 (by decide) (fun _ => next _ _ ⟨_, _, _, _, _, _, _, _, _, _, _, _, _, _, _, _, _, _, _, _, _, _, _, _, _, _, _, hR1, hP2, hD2⟩ hS2) (fun c9 => absurd ((show r1 = _ from er1).trans (ea.trans (show r2 = _ from er2).symm)) c9)
    · skip
      obtain ⟨n14, bd, cL, ez, ⟨f1, f2, f3⟩, hw, hB, htx, hk, hv⟩ := id hR
      obtain ⟨ea, hR1⟩ := st_end_x hR p0 p1 c0 c1
      refine lv_aload_n hx hb dL_law_214 rfl (lv_at hl 2 rfl) ?_
      refine lw_arg kx hX hbl hbA hS hI hn hl (k := 1) (by decide) rfl g0 dL_law_215 dL_law_216 dL_law_217 dL_law_218 dL_law_219 ?_
      refine lw_arg kx hX hbl hbA hS hI hn hl (k := 2) (by decide) rfl g1 dL_law_220 dL_law_221 dL_law_222 dL_law_223 dL_law_224 ?_
      refine k_calli (kRunV (As := [.int p0, .int p1]) (rest := []) kx (c_X6_end l G (nI d) sd h0 t0 aN aT b0 s0 i0 e0 gN gT p0 p1 hw.2.2.2.2.2.1) q_428 q_425 q_29 q_426 q_427 nX6_end ⟨Nat.le_of_ble_eq_true rfl, Nat.le_of_ble_eq_true rfl⟩ hK hP hD (kPm_left (kPm_app (kPm_keep (kPm_none _)) (kPm_keepB (kPm_left (kPm_all _))))).ctx 0 6 rfl rfl rfl rfl hl.1 (Nat.le_of_ble_eq_true rfl) dL_law_225 hf) hP hD hS hA (kPm_left (kPm_app (kPm_keep (kPm_none _)) (kPm_keepB (kPm_left (kPm_all _))))).ctx (fun _ => rfl) (fun r1 u1 H1 locs1 hw1 hP1 hD1 hS1 => ?_)
      obtain ⟨gT6, rfl⟩ : ∃ w, w = u1 := ⟨_, rfl⟩
      obtain ⟨er1, wgT6⟩ := hw1
      have hP1 : va_P G.1 vwCl (cAll G n9 d sd h0 t0 t1 b0 s0 i0 e0 e1 e2 e3 aN aT aS0 aS1 pi aB L sg ik z tk en mo gN gT6 gS0 gS1 gB ++ mAll G Z sd h7 uq tx rp re pg tr bk kp jk sa se sm) H1 := hP1
      have hD1 : va_D A (cAll G n9 d sd h0 t0 t1 b0 s0 i0 e0 e1 e2 e3 aN aT aS0 aS1 pi aB L sg ik z tk en mo gN gT6 gS0 gS1 gB ++ mAll G Z sd h7 uq tx rp re pg tr bk kp jk sa se sm) := hD1
      refine lv_aload_n hx hb dL_law_228 rfl (lv_at hl 1 rfl) ?_
      refine lw_arg kx hX hbl hbA hS1 hI hn hl (k := 1) (by decide) rfl g0 dL_law_229 dL_law_230 dL_law_231 dL_law_232 dL_law_233 ?_
      refine lw_arg kx hX hbl hbA hS1 hI hn hl (k := 2) (by decide) rfl g1 dL_law_234 dL_law_235 dL_law_236 dL_law_237 dL_law_238 ?_
      have cz := c_X7_end_x l G Z sd h7 (uq 1) (uq 2) (uq 3) (uq 4) (uq 5) (uq 6) (uq 7) (uq 8) (uq 9) (uq 10) (uq 11) p0 p1 c0 c1
      refine k_calli (kRunV (As := [.int p0, .int p1]) (rest := [.int r1]) kx cz q_821 q_818 q_36 q_819 q_820 nX7_end ⟨Nat.le_of_ble_eq_true rfl, Nat.le_of_ble_eq_true rfl⟩ hK hP1 hD1 (kPm_skipB (kPm_keep (kPm_none _))).ctx 0 7 rfl rfl rfl rfl hl.1 (Nat.le_of_ble_eq_true rfl) dL_law_239 hf) hP1 hD1 hS1 hA (kPm_skipB (kPm_keep (kPm_none _))).ctx (fun _ => rfl) (fun r2 u2 H2 locs2 hw2 hP2 hD2 hS2 => ?_)
      have er2 := hw2
      have hP2 : va_P G.1 vwCl (cAll G n9 d sd h0 t0 t1 b0 s0 i0 e0 e1 e2 e3 aN aT aS0 aS1 pi aB L sg ik z tk en mo gN gT6 gS0 gS1 gB ++ mAll G (upd Z 0 0) sd h7 uq tx rp re pg tr bk kp jk sa se sm) H2 := hP2
      have hD2 : va_D A (cAll G n9 d sd h0 t0 t1 b0 s0 i0 e0 e1 e2 e3 aN aT aS0 aS1 pi aB L sg ik z tk en mo gN gT6 gS0 gS1 gB ++ mAll G (upd Z 0 0) sd h7 uq tx rp re pg tr bk kp jk sa se sm) := hD2
      refine lv_icmp_eq (tgt := 903) hx hb dL_law_242 (by decide) (fun _ => next _ _ ⟨_, _, _, _, _, _, _, _, _, _, _, _, _, _, _, _, _, _, _, _, _, _, _, _, _, _, _, hR1, hP2, hD2⟩ hS2) (fun c9 => absurd ((show r1 = _ from er1).trans (ea.trans (show r2 = _ from er2).symm)) c9)
set_option maxHeartbeats 4000000 in
set_option maxRecDepth 100000 in
theorem lw_known (kx : kX p s m args meth c cL_law 4 rr RL) (hK : kK G s) (hX : va_X b n0 xs s s.heap) (hbl : b < s.heap.size) (hbA : ¬ A b) (hA : ∀ q, s.heap.size ≤ q → A q) (hf : cells ≤ room_1.cells ∧ slots ≤ room_1.slots) (hS : va_S A s.heap H locs) (hI : I + 4 ≤ n0) (hn : n0 ≤ 2048) (hl : lv_has ls 4 [(3, .int (nI I)), (2, .ref h7), (1, .ref h0), (0, .ref b)]) (hs : lwS G n9 A h0 t0 t1 b0 s0 i0 e0 e1 e2 e3 aN aT aS0 aS1 aB h7 uq H) (next : ∀ (H1 : Heap) (locs1 : List Loc), lwS G n9 A h0 t0 t1 b0 s0 i0 e0 e1 e2 e3 aN aT aS0 aS1 aB h7 uq H1 → va_S A s.heap H1 locs1 → W p l e room_1 s m args below meth c H1 locs1 cells slots Qq (F0 m 903 ls [])) : W p l e room_1 s m args below meth c H locs cells slots Qq (F0 m 247 ls []) := by
  have hx := kx.1
  have hb := kx.2.1
  obtain ⟨d, sd, pi, L, sg, ik, z, tk, en, mo, gN, gT, gS0, gS1, gB, Z, tx, rp, re, pg, tr, bk, kp, jk, sa, se, sm, hR, hP, hD⟩ := hs
  obtain ⟨p0, g0⟩ : ∃ v, xs (I + 1) = v := ⟨_, rfl⟩
  obtain ⟨p1, g1⟩ : ∃ v, xs (I + 2) = v := ⟨_, rfl⟩
  by_cases c0 : p0 = 0
  · subst c0
    obtain ⟨n14, bd, cL, ez, ⟨f1, f2, f3⟩, hw, hB, htx, hk, hv⟩ := id hR
    obtain ⟨ea, hR1⟩ := st_known_0 hR p1
    refine lv_aload_n hx hb dL_law_247 rfl (lv_at hl 2 rfl) ?_
    refine lw_arg kx hX hbl hbA hS hI hn hl (k := 1) (by decide) rfl g0 dL_law_248 dL_law_249 dL_law_250 dL_law_251 dL_law_252 ?_
    refine lw_arg kx hX hbl hbA hS hI hn hl (k := 2) (by decide) rfl g1 dL_law_253 dL_law_254 dL_law_255 dL_law_256 dL_law_257 ?_
    refine k_calli (kRunV (As := [.int 0, .int p1]) (rest := []) kx (c_X6_known l G (nI d) sd h0 t0 aN aT b0 s0 i0 e0 gN 0 p1) q_474 q_471 q_29 q_472 q_473 nX6_known ⟨Nat.le_of_ble_eq_true rfl, Nat.le_of_ble_eq_true rfl⟩ hK hP hD (kPm_left (kPm_app (kPm_keep (kPm_none _)) (kPm_left (kPm_all _)))).ctx 0 6 rfl rfl rfl rfl hl.1 (Nat.le_of_ble_eq_true rfl) dL_law_258 hf) hP hD hS hA (kPm_left (kPm_app (kPm_keep (kPm_none _)) (kPm_left (kPm_all _)))).ctx (fun _ => rfl) (fun r1 u1 H1 locs1 hw1 hP1 hD1 hS1 => ?_)
    have er1 := hw1
    have hP1 : va_P G.1 vwCl (cAll G n9 d sd h0 t0 t1 b0 s0 i0 e0 e1 e2 e3 aN aT aS0 aS1 pi aB L sg ik z tk en mo gN gT gS0 gS1 gB ++ mAll G Z sd h7 uq tx rp re pg tr bk kp jk sa se sm) H1 := hP1
    have hD1 : va_D A (cAll G n9 d sd h0 t0 t1 b0 s0 i0 e0 e1 e2 e3 aN aT aS0 aS1 pi aB L sg ik z tk en mo gN gT gS0 gS1 gB ++ mAll G Z sd h7 uq tx rp re pg tr bk kp jk sa se sm) := hD1
    refine lv_aload_n hx hb dL_law_261 rfl (lv_at hl 1 rfl) ?_
    refine lw_arg kx hX hbl hbA hS1 hI hn hl (k := 1) (by decide) rfl g0 dL_law_262 dL_law_263 dL_law_264 dL_law_265 dL_law_266 ?_
    refine lw_arg kx hX hbl hbA hS1 hI hn hl (k := 2) (by decide) rfl g1 dL_law_267 dL_law_268 dL_law_269 dL_law_270 dL_law_271 ?_
    have cz := c_X7_known_0 l G Z sd h7 (uq 1) (uq 2) (uq 3) (uq 4) (uq 5) (uq 6) (uq 7) (uq 8) (uq 9) (uq 10) (uq 11) pg p1
    refine k_calli (kRunV (As := [.int 0, .int p1]) (rest := [.int r1]) kx cz q_841 q_838 q_36 q_839 q_840 nX7_known ⟨Nat.le_of_ble_eq_true rfl, Nat.le_of_ble_eq_true rfl⟩ hK hP1 hD1 (kPm_skipB (kPm_keep (kPm_skip (kPm_skip (kPm_skip (kPm_keep (kPm_none _))))))).ctx 0 7 rfl rfl rfl rfl hl.1 (Nat.le_of_ble_eq_true rfl) dL_law_272 hf) hP1 hD1 hS1 hA (kPm_skipB (kPm_keep (kPm_skip (kPm_skip (kPm_skip (kPm_keep (kPm_none _))))))).ctx (fun _ => rfl) (fun r2 u2 H2 locs2 hw2 hP2 hD2 hS2 => ?_)
    obtain ⟨Z7, rfl⟩ : ∃ w, w = u2 := ⟨_, rfl⟩
    obtain ⟨er2, wZ7⟩ := hw2
    rw [← show _ = _ from wZ7] at hR1
    have hP2 : va_P G.1 vwCl (cAll G n9 d sd h0 t0 t1 b0 s0 i0 e0 e1 e2 e3 aN aT aS0 aS1 pi aB L sg ik z tk en mo gN gT gS0 gS1 gB ++ mAll G Z7 sd h7 uq tx rp re pg tr bk kp jk sa se sm) H2 := hP2
    have hD2 : va_D A (cAll G n9 d sd h0 t0 t1 b0 s0 i0 e0 e1 e2 e3 aN aT aS0 aS1 pi aB L sg ik z tk en mo gN gT gS0 gS1 gB ++ mAll G Z7 sd h7 uq tx rp re pg tr bk kp jk sa se sm) := hD2
    refine lv_icmp_eq (tgt := 903) hx hb dL_law_275 (by decide) (fun _ => next _ _ ⟨_, _, _, _, _, _, _, _, _, _, _, _, _, _, _, _, _, _, _, _, _, _, _, _, _, _, _, hR1, hP2, hD2⟩ hS2) (fun c9 => absurd ((show r1 = _ from er1).trans (ea.trans (show r2 = _ from er2).symm)) c9)
  · by_cases c1 : p0 = 1
    · subst c1
      obtain ⟨n14, bd, cL, ez, ⟨f1, f2, f3⟩, hw, hB, htx, hk, hv⟩ := id hR
      obtain ⟨ea, hR1⟩ := st_known_1 hR p1
      refine lv_aload_n hx hb dL_law_247 rfl (lv_at hl 2 rfl) ?_
      refine lw_arg kx hX hbl hbA hS hI hn hl (k := 1) (by decide) rfl g0 dL_law_248 dL_law_249 dL_law_250 dL_law_251 dL_law_252 ?_
      refine lw_arg kx hX hbl hbA hS hI hn hl (k := 2) (by decide) rfl g1 dL_law_253 dL_law_254 dL_law_255 dL_law_256 dL_law_257 ?_
      refine k_calli (kRunV (As := [.int 1, .int p1]) (rest := []) kx (c_X6_known l G (nI d) sd h0 t0 aN aT b0 s0 i0 e0 gN 1 p1) q_474 q_471 q_29 q_472 q_473 nX6_known ⟨Nat.le_of_ble_eq_true rfl, Nat.le_of_ble_eq_true rfl⟩ hK hP hD (kPm_left (kPm_app (kPm_keep (kPm_none _)) (kPm_left (kPm_all _)))).ctx 0 6 rfl rfl rfl rfl hl.1 (Nat.le_of_ble_eq_true rfl) dL_law_258 hf) hP hD hS hA (kPm_left (kPm_app (kPm_keep (kPm_none _)) (kPm_left (kPm_all _)))).ctx (fun _ => rfl) (fun r1 u1 H1 locs1 hw1 hP1 hD1 hS1 => ?_)
      have er1 := hw1
      have hP1 : va_P G.1 vwCl (cAll G n9 d sd h0 t0 t1 b0 s0 i0 e0 e1 e2 e3 aN aT aS0 aS1 pi aB L sg ik z tk en mo gN gT gS0 gS1 gB ++ mAll G Z sd h7 uq tx rp re pg tr bk kp jk sa se sm) H1 := hP1
      have hD1 : va_D A (cAll G n9 d sd h0 t0 t1 b0 s0 i0 e0 e1 e2 e3 aN aT aS0 aS1 pi aB L sg ik z tk en mo gN gT gS0 gS1 gB ++ mAll G Z sd h7 uq tx rp re pg tr bk kp jk sa se sm) := hD1
      refine lv_aload_n hx hb dL_law_261 rfl (lv_at hl 1 rfl) ?_
      refine lw_arg kx hX hbl hbA hS1 hI hn hl (k := 1) (by decide) rfl g0 dL_law_262 dL_law_263 dL_law_264 dL_law_265 dL_law_266 ?_
      refine lw_arg kx hX hbl hbA hS1 hI hn hl (k := 2) (by decide) rfl g1 dL_law_267 dL_law_268 dL_law_269 dL_law_270 dL_law_271 ?_
      have cz := c_X7_known_1 l G Z sd h7 (uq 1) (uq 2) (uq 3) (uq 4) (uq 5) (uq 6) (uq 7) (uq 8) (uq 9) (uq 10) (uq 11) pg p1
      refine k_calli (kRunV (As := [.int 1, .int p1]) (rest := [.int r1]) kx cz q_841 q_838 q_36 q_839 q_840 nX7_known ⟨Nat.le_of_ble_eq_true rfl, Nat.le_of_ble_eq_true rfl⟩ hK hP1 hD1 (kPm_skipB (kPm_keep (kPm_skip (kPm_skip (kPm_skip (kPm_keep (kPm_none _))))))).ctx 0 7 rfl rfl rfl rfl hl.1 (Nat.le_of_ble_eq_true rfl) dL_law_272 hf) hP1 hD1 hS1 hA (kPm_skipB (kPm_keep (kPm_skip (kPm_skip (kPm_skip (kPm_keep (kPm_none _))))))).ctx (fun _ => rfl) (fun r2 u2 H2 locs2 hw2 hP2 hD2 hS2 => ?_)
      obtain ⟨Z7, rfl⟩ : ∃ w, w = u2 := ⟨_, rfl⟩
      obtain ⟨er2, wZ7⟩ := hw2
      rw [← show _ = _ from wZ7] at hR1
      have hP2 : va_P G.1 vwCl (cAll G n9 d sd h0 t0 t1 b0 s0 i0 e0 e1 e2 e3 aN aT aS0 aS1 pi aB L sg ik z tk en mo gN gT gS0 gS1 gB ++ mAll G Z7 sd h7 uq tx rp re pg tr bk kp jk sa se sm) H2 := hP2
      have hD2 : va_D A (cAll G n9 d sd h0 t0 t1 b0 s0 i0 e0 e1 e2 e3 aN aT aS0 aS1 pi aB L sg ik z tk en mo gN gT gS0 gS1 gB ++ mAll G Z7 sd h7 uq tx rp re pg tr bk kp jk sa se sm) := hD2
      refine lv_icmp_eq (tgt := 903) hx hb dL_law_275 (by decide) (fun _ => next _ _ ⟨_, _, _, _, _, _, _, _, _, _, _, _, _, _, _, _, _, _, _, _, _, _, _, _, _, _, _, hR1, hP2, hD2⟩ hS2) (fun c9 => absurd ((show r1 = _ from er1).trans (ea.trans (show r2 = _ from er2).symm)) c9)
    · skip
      obtain ⟨n14, bd, cL, ez, ⟨f1, f2, f3⟩, hw, hB, htx, hk, hv⟩ := id hR
      obtain ⟨ea, hR1⟩ := st_known_x hR p0 p1 c0 c1
      refine lv_aload_n hx hb dL_law_247 rfl (lv_at hl 2 rfl) ?_
      refine lw_arg kx hX hbl hbA hS hI hn hl (k := 1) (by decide) rfl g0 dL_law_248 dL_law_249 dL_law_250 dL_law_251 dL_law_252 ?_
      refine lw_arg kx hX hbl hbA hS hI hn hl (k := 2) (by decide) rfl g1 dL_law_253 dL_law_254 dL_law_255 dL_law_256 dL_law_257 ?_
      refine k_calli (kRunV (As := [.int p0, .int p1]) (rest := []) kx (c_X6_known l G (nI d) sd h0 t0 aN aT b0 s0 i0 e0 gN p0 p1) q_474 q_471 q_29 q_472 q_473 nX6_known ⟨Nat.le_of_ble_eq_true rfl, Nat.le_of_ble_eq_true rfl⟩ hK hP hD (kPm_left (kPm_app (kPm_keep (kPm_none _)) (kPm_left (kPm_all _)))).ctx 0 6 rfl rfl rfl rfl hl.1 (Nat.le_of_ble_eq_true rfl) dL_law_258 hf) hP hD hS hA (kPm_left (kPm_app (kPm_keep (kPm_none _)) (kPm_left (kPm_all _)))).ctx (fun _ => rfl) (fun r1 u1 H1 locs1 hw1 hP1 hD1 hS1 => ?_)
      have er1 := hw1
      have hP1 : va_P G.1 vwCl (cAll G n9 d sd h0 t0 t1 b0 s0 i0 e0 e1 e2 e3 aN aT aS0 aS1 pi aB L sg ik z tk en mo gN gT gS0 gS1 gB ++ mAll G Z sd h7 uq tx rp re pg tr bk kp jk sa se sm) H1 := hP1
      have hD1 : va_D A (cAll G n9 d sd h0 t0 t1 b0 s0 i0 e0 e1 e2 e3 aN aT aS0 aS1 pi aB L sg ik z tk en mo gN gT gS0 gS1 gB ++ mAll G Z sd h7 uq tx rp re pg tr bk kp jk sa se sm) := hD1
      refine lv_aload_n hx hb dL_law_261 rfl (lv_at hl 1 rfl) ?_
      refine lw_arg kx hX hbl hbA hS1 hI hn hl (k := 1) (by decide) rfl g0 dL_law_262 dL_law_263 dL_law_264 dL_law_265 dL_law_266 ?_
      refine lw_arg kx hX hbl hbA hS1 hI hn hl (k := 2) (by decide) rfl g1 dL_law_267 dL_law_268 dL_law_269 dL_law_270 dL_law_271 ?_
      have cz := c_X7_known_x l G Z sd h7 (uq 1) (uq 2) (uq 3) (uq 4) (uq 5) (uq 6) (uq 7) (uq 8) (uq 9) (uq 10) (uq 11) p0 p1 c0 c1
      refine k_calli (kRunV (As := [.int p0, .int p1]) (rest := [.int r1]) kx cz q_841 q_838 q_36 q_839 q_840 nX7_known ⟨Nat.le_of_ble_eq_true rfl, Nat.le_of_ble_eq_true rfl⟩ hK hP1 hD1 (kPm_skipB (kPm_keep (kPm_none _))).ctx 0 7 rfl rfl rfl rfl hl.1 (Nat.le_of_ble_eq_true rfl) dL_law_272 hf) hP1 hD1 hS1 hA (kPm_skipB (kPm_keep (kPm_none _))).ctx (fun _ => rfl) (fun r2 u2 H2 locs2 hw2 hP2 hD2 hS2 => ?_)
      have er2 := hw2
      have hP2 : va_P G.1 vwCl (cAll G n9 d sd h0 t0 t1 b0 s0 i0 e0 e1 e2 e3 aN aT aS0 aS1 pi aB L sg ik z tk en mo gN gT gS0 gS1 gB ++ mAll G (upd Z 0 0) sd h7 uq tx rp re pg tr bk kp jk sa se sm) H2 := hP2
      have hD2 : va_D A (cAll G n9 d sd h0 t0 t1 b0 s0 i0 e0 e1 e2 e3 aN aT aS0 aS1 pi aB L sg ik z tk en mo gN gT gS0 gS1 gB ++ mAll G (upd Z 0 0) sd h7 uq tx rp re pg tr bk kp jk sa se sm) := hD2
      refine lv_icmp_eq (tgt := 903) hx hb dL_law_275 (by decide) (fun _ => next _ _ ⟨_, _, _, _, _, _, _, _, _, _, _, _, _, _, _, _, _, _, _, _, _, _, _, _, _, _, _, hR1, hP2, hD2⟩ hS2) (fun c9 => absurd ((show r1 = _ from er1).trans (ea.trans (show r2 = _ from er2).symm)) c9)
set_option maxHeartbeats 4000000 in
set_option maxRecDepth 100000 in
theorem lw_way (kx : kX p s m args meth c cL_law 4 rr RL) (hK : kK G s) (hX : va_X b n0 xs s s.heap) (hbl : b < s.heap.size) (hbA : ¬ A b) (hA : ∀ q, s.heap.size ≤ q → A q) (hf : cells ≤ room_1.cells ∧ slots ≤ room_1.slots) (hS : va_S A s.heap H locs) (hI : I + 4 ≤ n0) (hn : n0 ≤ 2048) (hl : lv_has ls 4 [(3, .int (nI I)), (2, .ref h7), (1, .ref h0), (0, .ref b)]) (hs : lwS G n9 A h0 t0 t1 b0 s0 i0 e0 e1 e2 e3 aN aT aS0 aS1 aB h7 uq H) (next : ∀ (H1 : Heap) (locs1 : List Loc), lwS G n9 A h0 t0 t1 b0 s0 i0 e0 e1 e2 e3 aN aT aS0 aS1 aB h7 uq H1 → va_S A s.heap H1 locs1 → W p l e room_1 s m args below meth c H1 locs1 cells slots Qq (F0 m 903 ls [])) : W p l e room_1 s m args below meth c H locs cells slots Qq (F0 m 280 ls []) := by
  have hx := kx.1
  have hb := kx.2.1
  obtain ⟨d, sd, pi, L, sg, ik, z, tk, en, mo, gN, gT, gS0, gS1, gB, Z, tx, rp, re, pg, tr, bk, kp, jk, sa, se, sm, hR, hP, hD⟩ := hs
  obtain ⟨p0, g0⟩ : ∃ v, xs (I + 1) = v := ⟨_, rfl⟩
  obtain ⟨p1, g1⟩ : ∃ v, xs (I + 2) = v := ⟨_, rfl⟩
  by_cases c0 : p0 = 0
  · subst c0
    obtain ⟨n14, bd, cL, ez, ⟨f1, f2, f3⟩, hw, hB, htx, hk, hv⟩ := id hR
    obtain ⟨ea, hR1⟩ := st_way_0 hR p1
    refine lv_aload_n hx hb dL_law_280 rfl (lv_at hl 2 rfl) ?_
    refine lw_arg kx hX hbl hbA hS hI hn hl (k := 1) (by decide) rfl g0 dL_law_281 dL_law_282 dL_law_283 dL_law_284 dL_law_285 ?_
    refine lw_arg kx hX hbl hbA hS hI hn hl (k := 2) (by decide) rfl g1 dL_law_286 dL_law_287 dL_law_288 dL_law_289 dL_law_290 ?_
    refine k_calli (kRunV (As := [.int 0, .int p1]) (rest := []) kx (c_X6_way l G (nI d) sd h0 t0 aN aT b0 s0 i0 e0 gN 0 p1) q_483 q_480 q_29 q_481 q_482 nX6_way ⟨Nat.le_of_ble_eq_true rfl, Nat.le_of_ble_eq_true rfl⟩ hK hP hD (kPm_left (kPm_app (kPm_keep (kPm_none _)) (kPm_left (kPm_all _)))).ctx 0 6 rfl rfl rfl rfl hl.1 (Nat.le_of_ble_eq_true rfl) dL_law_291 hf) hP hD hS hA (kPm_left (kPm_app (kPm_keep (kPm_none _)) (kPm_left (kPm_all _)))).ctx (fun _ => rfl) (fun r1 u1 H1 locs1 hw1 hP1 hD1 hS1 => ?_)
    have er1 := hw1
    have hP1 : va_P G.1 vwCl (cAll G n9 d sd h0 t0 t1 b0 s0 i0 e0 e1 e2 e3 aN aT aS0 aS1 pi aB L sg ik z tk en mo gN gT gS0 gS1 gB ++ mAll G Z sd h7 uq tx rp re pg tr bk kp jk sa se sm) H1 := hP1
    have hD1 : va_D A (cAll G n9 d sd h0 t0 t1 b0 s0 i0 e0 e1 e2 e3 aN aT aS0 aS1 pi aB L sg ik z tk en mo gN gT gS0 gS1 gB ++ mAll G Z sd h7 uq tx rp re pg tr bk kp jk sa se sm) := hD1
    refine lv_aload_n hx hb dL_law_294 rfl (lv_at hl 1 rfl) ?_
    refine lw_arg kx hX hbl hbA hS1 hI hn hl (k := 1) (by decide) rfl g0 dL_law_295 dL_law_296 dL_law_297 dL_law_298 dL_law_299 ?_
    refine lw_arg kx hX hbl hbA hS1 hI hn hl (k := 2) (by decide) rfl g1 dL_law_300 dL_law_301 dL_law_302 dL_law_303 dL_law_304 ?_
    have cz := c_X7_way_0 l G Z sd h7 (uq 1) (uq 2) (uq 3) (uq 4) (uq 5) (uq 6) (uq 7) (uq 8) (uq 9) (uq 10) (uq 11) pg p1
    refine k_calli (kRunV (As := [.int 0, .int p1]) (rest := [.int r1]) kx cz q_846 q_843 q_36 q_844 q_845 nX7_way ⟨Nat.le_of_ble_eq_true rfl, Nat.le_of_ble_eq_true rfl⟩ hK hP1 hD1 (kPm_skipB (kPm_keep (kPm_skip (kPm_skip (kPm_skip (kPm_keep (kPm_none _))))))).ctx 0 7 rfl rfl rfl rfl hl.1 (Nat.le_of_ble_eq_true rfl) dL_law_305 hf) hP1 hD1 hS1 hA (kPm_skipB (kPm_keep (kPm_skip (kPm_skip (kPm_skip (kPm_keep (kPm_none _))))))).ctx (fun _ => rfl) (fun r2 u2 H2 locs2 hw2 hP2 hD2 hS2 => ?_)
    obtain ⟨Z7, rfl⟩ : ∃ w, w = u2 := ⟨_, rfl⟩
    obtain ⟨er2, wZ7⟩ := hw2
    rw [← show _ = _ from wZ7] at hR1
    have hP2 : va_P G.1 vwCl (cAll G n9 d sd h0 t0 t1 b0 s0 i0 e0 e1 e2 e3 aN aT aS0 aS1 pi aB L sg ik z tk en mo gN gT gS0 gS1 gB ++ mAll G Z7 sd h7 uq tx rp re pg tr bk kp jk sa se sm) H2 := hP2
    have hD2 : va_D A (cAll G n9 d sd h0 t0 t1 b0 s0 i0 e0 e1 e2 e3 aN aT aS0 aS1 pi aB L sg ik z tk en mo gN gT gS0 gS1 gB ++ mAll G Z7 sd h7 uq tx rp re pg tr bk kp jk sa se sm) := hD2
    refine lv_icmp_eq (tgt := 903) hx hb dL_law_308 (by decide) (fun _ => next _ _ ⟨_, _, _, _, _, _, _, _, _, _, _, _, _, _, _, _, _, _, _, _, _, _, _, _, _, _, _, hR1, hP2, hD2⟩ hS2) (fun c9 => absurd ((show r1 = _ from er1).trans (ea.trans (show r2 = _ from er2).symm)) c9)
  · by_cases c1 : p0 = 1
    · subst c1
      obtain ⟨n14, bd, cL, ez, ⟨f1, f2, f3⟩, hw, hB, htx, hk, hv⟩ := id hR
      obtain ⟨ea, hR1⟩ := st_way_1 hR p1
      refine lv_aload_n hx hb dL_law_280 rfl (lv_at hl 2 rfl) ?_
      refine lw_arg kx hX hbl hbA hS hI hn hl (k := 1) (by decide) rfl g0 dL_law_281 dL_law_282 dL_law_283 dL_law_284 dL_law_285 ?_
      refine lw_arg kx hX hbl hbA hS hI hn hl (k := 2) (by decide) rfl g1 dL_law_286 dL_law_287 dL_law_288 dL_law_289 dL_law_290 ?_
      refine k_calli (kRunV (As := [.int 1, .int p1]) (rest := []) kx (c_X6_way l G (nI d) sd h0 t0 aN aT b0 s0 i0 e0 gN 1 p1) q_483 q_480 q_29 q_481 q_482 nX6_way ⟨Nat.le_of_ble_eq_true rfl, Nat.le_of_ble_eq_true rfl⟩ hK hP hD (kPm_left (kPm_app (kPm_keep (kPm_none _)) (kPm_left (kPm_all _)))).ctx 0 6 rfl rfl rfl rfl hl.1 (Nat.le_of_ble_eq_true rfl) dL_law_291 hf) hP hD hS hA (kPm_left (kPm_app (kPm_keep (kPm_none _)) (kPm_left (kPm_all _)))).ctx (fun _ => rfl) (fun r1 u1 H1 locs1 hw1 hP1 hD1 hS1 => ?_)
      have er1 := hw1
      have hP1 : va_P G.1 vwCl (cAll G n9 d sd h0 t0 t1 b0 s0 i0 e0 e1 e2 e3 aN aT aS0 aS1 pi aB L sg ik z tk en mo gN gT gS0 gS1 gB ++ mAll G Z sd h7 uq tx rp re pg tr bk kp jk sa se sm) H1 := hP1
      have hD1 : va_D A (cAll G n9 d sd h0 t0 t1 b0 s0 i0 e0 e1 e2 e3 aN aT aS0 aS1 pi aB L sg ik z tk en mo gN gT gS0 gS1 gB ++ mAll G Z sd h7 uq tx rp re pg tr bk kp jk sa se sm) := hD1
      refine lv_aload_n hx hb dL_law_294 rfl (lv_at hl 1 rfl) ?_
      refine lw_arg kx hX hbl hbA hS1 hI hn hl (k := 1) (by decide) rfl g0 dL_law_295 dL_law_296 dL_law_297 dL_law_298 dL_law_299 ?_
      refine lw_arg kx hX hbl hbA hS1 hI hn hl (k := 2) (by decide) rfl g1 dL_law_300 dL_law_301 dL_law_302 dL_law_303 dL_law_304 ?_
      have cz := c_X7_way_1 l G Z sd h7 (uq 1) (uq 2) (uq 3) (uq 4) (uq 5) (uq 6) (uq 7) (uq 8) (uq 9) (uq 10) (uq 11) pg p1
      refine k_calli (kRunV (As := [.int 1, .int p1]) (rest := [.int r1]) kx cz q_846 q_843 q_36 q_844 q_845 nX7_way ⟨Nat.le_of_ble_eq_true rfl, Nat.le_of_ble_eq_true rfl⟩ hK hP1 hD1 (kPm_skipB (kPm_keep (kPm_skip (kPm_skip (kPm_skip (kPm_keep (kPm_none _))))))).ctx 0 7 rfl rfl rfl rfl hl.1 (Nat.le_of_ble_eq_true rfl) dL_law_305 hf) hP1 hD1 hS1 hA (kPm_skipB (kPm_keep (kPm_skip (kPm_skip (kPm_skip (kPm_keep (kPm_none _))))))).ctx (fun _ => rfl) (fun r2 u2 H2 locs2 hw2 hP2 hD2 hS2 => ?_)
      obtain ⟨Z7, rfl⟩ : ∃ w, w = u2 := ⟨_, rfl⟩
      obtain ⟨er2, wZ7⟩ := hw2
      rw [← show _ = _ from wZ7] at hR1
      have hP2 : va_P G.1 vwCl (cAll G n9 d sd h0 t0 t1 b0 s0 i0 e0 e1 e2 e3 aN aT aS0 aS1 pi aB L sg ik z tk en mo gN gT gS0 gS1 gB ++ mAll G Z7 sd h7 uq tx rp re pg tr bk kp jk sa se sm) H2 := hP2
      have hD2 : va_D A (cAll G n9 d sd h0 t0 t1 b0 s0 i0 e0 e1 e2 e3 aN aT aS0 aS1 pi aB L sg ik z tk en mo gN gT gS0 gS1 gB ++ mAll G Z7 sd h7 uq tx rp re pg tr bk kp jk sa se sm) := hD2
      refine lv_icmp_eq (tgt := 903) hx hb dL_law_308 (by decide) (fun _ => next _ _ ⟨_, _, _, _, _, _, _, _, _, _, _, _, _, _, _, _, _, _, _, _, _, _, _, _, _, _, _, hR1, hP2, hD2⟩ hS2) (fun c9 => absurd ((show r1 = _ from er1).trans (ea.trans (show r2 = _ from er2).symm)) c9)
    · skip
      obtain ⟨n14, bd, cL, ez, ⟨f1, f2, f3⟩, hw, hB, htx, hk, hv⟩ := id hR
      obtain ⟨ea, hR1⟩ := st_way_x hR p0 p1 c0 c1
      refine lv_aload_n hx hb dL_law_280 rfl (lv_at hl 2 rfl) ?_
      refine lw_arg kx hX hbl hbA hS hI hn hl (k := 1) (by decide) rfl g0 dL_law_281 dL_law_282 dL_law_283 dL_law_284 dL_law_285 ?_
      refine lw_arg kx hX hbl hbA hS hI hn hl (k := 2) (by decide) rfl g1 dL_law_286 dL_law_287 dL_law_288 dL_law_289 dL_law_290 ?_
      refine k_calli (kRunV (As := [.int p0, .int p1]) (rest := []) kx (c_X6_way l G (nI d) sd h0 t0 aN aT b0 s0 i0 e0 gN p0 p1) q_483 q_480 q_29 q_481 q_482 nX6_way ⟨Nat.le_of_ble_eq_true rfl, Nat.le_of_ble_eq_true rfl⟩ hK hP hD (kPm_left (kPm_app (kPm_keep (kPm_none _)) (kPm_left (kPm_all _)))).ctx 0 6 rfl rfl rfl rfl hl.1 (Nat.le_of_ble_eq_true rfl) dL_law_291 hf) hP hD hS hA (kPm_left (kPm_app (kPm_keep (kPm_none _)) (kPm_left (kPm_all _)))).ctx (fun _ => rfl) (fun r1 u1 H1 locs1 hw1 hP1 hD1 hS1 => ?_)
      have er1 := hw1
      have hP1 : va_P G.1 vwCl (cAll G n9 d sd h0 t0 t1 b0 s0 i0 e0 e1 e2 e3 aN aT aS0 aS1 pi aB L sg ik z tk en mo gN gT gS0 gS1 gB ++ mAll G Z sd h7 uq tx rp re pg tr bk kp jk sa se sm) H1 := hP1
      have hD1 : va_D A (cAll G n9 d sd h0 t0 t1 b0 s0 i0 e0 e1 e2 e3 aN aT aS0 aS1 pi aB L sg ik z tk en mo gN gT gS0 gS1 gB ++ mAll G Z sd h7 uq tx rp re pg tr bk kp jk sa se sm) := hD1
      refine lv_aload_n hx hb dL_law_294 rfl (lv_at hl 1 rfl) ?_
      refine lw_arg kx hX hbl hbA hS1 hI hn hl (k := 1) (by decide) rfl g0 dL_law_295 dL_law_296 dL_law_297 dL_law_298 dL_law_299 ?_
      refine lw_arg kx hX hbl hbA hS1 hI hn hl (k := 2) (by decide) rfl g1 dL_law_300 dL_law_301 dL_law_302 dL_law_303 dL_law_304 ?_
      have cz := c_X7_way_x l G Z sd h7 (uq 1) (uq 2) (uq 3) (uq 4) (uq 5) (uq 6) (uq 7) (uq 8) (uq 9) (uq 10) (uq 11) p0 p1 c0 c1
      refine k_calli (kRunV (As := [.int p0, .int p1]) (rest := [.int r1]) kx cz q_846 q_843 q_36 q_844 q_845 nX7_way ⟨Nat.le_of_ble_eq_true rfl, Nat.le_of_ble_eq_true rfl⟩ hK hP1 hD1 (kPm_skipB (kPm_keep (kPm_none _))).ctx 0 7 rfl rfl rfl rfl hl.1 (Nat.le_of_ble_eq_true rfl) dL_law_305 hf) hP1 hD1 hS1 hA (kPm_skipB (kPm_keep (kPm_none _))).ctx (fun _ => rfl) (fun r2 u2 H2 locs2 hw2 hP2 hD2 hS2 => ?_)
      have er2 := hw2
      have hP2 : va_P G.1 vwCl (cAll G n9 d sd h0 t0 t1 b0 s0 i0 e0 e1 e2 e3 aN aT aS0 aS1 pi aB L sg ik z tk en mo gN gT gS0 gS1 gB ++ mAll G (upd Z 0 0) sd h7 uq tx rp re pg tr bk kp jk sa se sm) H2 := hP2
      have hD2 : va_D A (cAll G n9 d sd h0 t0 t1 b0 s0 i0 e0 e1 e2 e3 aN aT aS0 aS1 pi aB L sg ik z tk en mo gN gT gS0 gS1 gB ++ mAll G (upd Z 0 0) sd h7 uq tx rp re pg tr bk kp jk sa se sm) := hD2
      refine lv_icmp_eq (tgt := 903) hx hb dL_law_308 (by decide) (fun _ => next _ _ ⟨_, _, _, _, _, _, _, _, _, _, _, _, _, _, _, _, _, _, _, _, _, _, _, _, _, _, _, hR1, hP2, hD2⟩ hS2) (fun c9 => absurd ((show r1 = _ from er1).trans (ea.trans (show r2 = _ from er2).symm)) c9)
end LW
