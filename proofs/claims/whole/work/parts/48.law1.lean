/-! the law: both objects beside each other -/
theorem st_undo {n9 d L z : Nat} {pi : Nat → Nat} {sg ik tk en mo : Nat → Int32} {gN gS0 gS1 : Nat → Nat → Int32} {gB : Nat → Nat → Nat → Int32} {Z tx pg bk kp jk sa se sm : Nat → Int32} (h : rR n9 d L z pi sg ik tk en mo gN gS0 gS1 gB Z tx pg bk kp jk sa se sm) : r_X6_undo d = r_X7_undo d pg bk ∧ ∃ (d1 : Nat), s_X6_undo_ac d = kc (nI d1) ∧ rR n9 d1 L z pi sg ik tk en mo (s_X6_undo_gN d pi gN gB) gS0 gS1 gB (s_X7_undo_Z Z d pg bk) tx (s_X7_undo_pg d pg bk) bk kp jk sa se sm := by
  obtain ⟨e, d1, h1, h2, h3, h4, h5, h6⟩ := q_undo h.2.2.2.2.2.2.1 h.2.1 h.2.2.2.2.2.1 Z
  exact ⟨e, d1, h2, rR_act h h1 h3 h4 h5 h6⟩
def lwS (G : kG) (n9 : Nat) (A : Nat → Prop) (h0 t0 t1 b0 s0 i0 e0 e1 e2 e3 : Nat) (aN aT aS0 aS1 : Nat → Nat) (aB : Nat → Nat → Nat) (h7 : Nat) (uq : Nat → Nat) (H : Heap) : Prop := ∃ (d : Nat) (sd : Int64) (pi : Nat → Nat) (L : Nat) (sg ik : Nat → Int32) (z : Nat) (tk en mo : Nat → Int32) (gN gT gS0 gS1 : Nat → Nat → Int32) (gB : Nat → Nat → Nat → Int32) (Z tx rp re pg tr bk kp jk sa se sm : Nat → Int32), rR n9 d L z pi sg ik tk en mo gN gS0 gS1 gB Z tx pg bk kp jk sa se sm ∧ va_P G.1 vwCl (cAll G n9 d sd h0 t0 t1 b0 s0 i0 e0 e1 e2 e3 aN aT aS0 aS1 pi aB L sg ik z tk en mo gN gT gS0 gS1 gB ++ mAll G Z sd h7 uq tx rp re pg tr bk kp jk sa se sm) H ∧ va_D A (cAll G n9 d sd h0 t0 t1 b0 s0 i0 e0 e1 e2 e3 aN aT aS0 aS1 pi aB L sg ik z tk en mo gN gT gS0 gS1 gB ++ mAll G Z sd h7 uq tx rp re pg tr bk kp jk sa se sm)
section LW
variable {p : Program} {l : Launch} {e : Env} {s : State} {m : MethodId} {args : Array Value} {below : List Frame} {meth : Method} {c : Code} {H : Heap} {locs : List Loc} {cells slots : Nat} {Qq : State → Prop} {rr : Option FieldType}
variable {ls : Array Slot} {rest : List Value} {G : kG} {A : Nat → Prop} {b n0 I n9 : Nat} {xs : Nat → Int32} {h0 t0 t1 b0 s0 i0 e0 e1 e2 e3 : Nat} {aN aT aS0 aS1 : Nat → Nat} {aB : Nat → Nat → Nat} {h7 : Nat} {uq : Nat → Nat}
/-- a number of the script is laid on the stack -/
theorem lw_arg (kx : kX p s m args meth c cL_law 4 rr RL) (hX : va_X b n0 xs s s.heap) (hbl : b < s.heap.size) (hbA : ¬ A b) (hS : va_S A s.heap H locs) (hI : I + 4 ≤ n0) (hn : n0 ≤ 2048) (hl : lv_has ls 4 [(3, .int (nI I)), (2, .ref h7), (1, .ref h0), (0, .ref b)]) {pc k : Nat} {kI : Int} {v : Int32} (hk : k < 4) (hkI : Int32.ofInt kI = nI k) (hv : xs (I + k) = v) (d0 : decode cL_law pc = .ok (.aload_n 0, 1)) (d1 : decode cL_law (pc + 1) = .ok (.iload_n 3, 1)) (d2 : decode cL_law (pc + 2) = .ok (.iconst kI, 1)) (d3 : decode cL_law (pc + 3) = .ok (.iadd, 1)) (d4 : decode cL_law (pc + 4) = .ok (.iaload, 1))
    (kk : W p l e room_1 s m args below meth c H locs cells slots Qq (F0 m (pc + 5) ls (.int v :: rest))) : W p l e room_1 s m args below meth c H locs cells slots Qq (F0 m pc ls rest) := by
  have hx := kx.1
  have hb := kx.2.1
  refine lv_aload_n hx hb d0 rfl (lv_at hl 3 rfl) ?_
  refine lv_iload_n hx hb d1 rfl (lv_at hl 0 rfl) ?_
  refine lv_iconst (v := nI k) hx hb d2 hkI ?_
  refine lv_iadd hx hb d3 ?_
  rw [nI_add]
  refine va_sld (i := nI (I + k)) hx hb hX hbl hbA hS (fun q => ?_) d4 ?_
  · rcases q with q | q
    · exact absurd q (Int32.not_lt.mpr (nI_pos' (by omega)))
    · rw [nI_clamp (by omega)] at q; omega
  · rw [nI_clamp (by omega), hv]
    exact kk

set_option maxHeartbeats 4000000 in
set_option maxRecDepth 100000 in
theorem lw_write (kx : kX p s m args meth c cL_law 4 rr RL) (hK : kK G s) (hX : va_X b n0 xs s s.heap) (hbl : b < s.heap.size) (hbA : ¬ A b) (hA : ∀ q, s.heap.size ≤ q → A q) (hf : cells ≤ room_1.cells ∧ slots ≤ room_1.slots) (hS : va_S A s.heap H locs) (hI : I + 4 ≤ n0) (hn : n0 ≤ 2048) (hl : lv_has ls 4 [(3, .int (nI I)), (2, .ref h7), (1, .ref h0), (0, .ref b)]) (hs : lwS G n9 A h0 t0 t1 b0 s0 i0 e0 e1 e2 e3 aN aT aS0 aS1 aB h7 uq H) (next : ∀ (H1 : Heap) (locs1 : List Loc), lwS G n9 A h0 t0 t1 b0 s0 i0 e0 e1 e2 e3 aN aT aS0 aS1 aB h7 uq H1 → va_S A s.heap H1 locs1 → W p l e room_1 s m args below meth c H1 locs1 cells slots Qq (F0 m 903 ls [])) : W p l e room_1 s m args below meth c H locs cells slots Qq (F0 m 152 ls []) := by
  have hx := kx.1
  have hb := kx.2.1
  obtain ⟨d, sd, pi, L, sg, ik, z, tk, en, mo, gN, gT, gS0, gS1, gB, Z, tx, rp, re, pg, tr, bk, kp, jk, sa, se, sm, hR, hP, hD⟩ := hs
  obtain ⟨p0, g0⟩ : ∃ v, xs (I + 1) = v := ⟨_, rfl⟩
  obtain ⟨n14, bd, cL, ez, ⟨f1, f2, f3⟩, hw, hB, htx, hk, hv⟩ := id hR
  obtain ⟨ea, L1, st_tx, hR1⟩ := st_write hR p0
  refine lv_aload_n hx hb dL_law_152 rfl (lv_at hl 2 rfl) ?_
  refine lw_arg kx hX hbl hbA hS hI hn hl (k := 1) (by decide) rfl g0 dL_law_153 dL_law_154 dL_law_155 dL_law_156 dL_law_157 ?_
  refine k_calli (kRunV (As := [.int p0]) (rest := []) kx (c_X6_write l G (nI d) sd h0 t0 aN aT b0 s0 i0 e0 L sg t1 p0 cL) q_294 q_291 q_29 q_292 q_293 nX6_write ⟨Nat.le_of_ble_eq_true rfl, Nat.le_of_ble_eq_true rfl⟩ hK hP hD (kPm_left (kPm_left (kPm_keep (kPm_keep (kPm_keep (kPm_none _)))))).ctx 0 6 rfl rfl rfl rfl hl.1 (Nat.le_of_ble_eq_true rfl) dL_law_158 hf) hP hD hS hA (kPm_left (kPm_left (kPm_keep (kPm_keep (kPm_keep (kPm_none _)))))).ctx (fun _ => rfl) (fun r1 u1 H1 locs1 hw1 hP1 hD1 hS1 => ?_)
  obtain ⟨tx6, sg6⟩ := u1
  obtain ⟨er1, wtx6, wsg6⟩ := hw1
  have wtx6 : tx6 = kc (nI L1) := (show tx6 = _ from wtx6).trans st_tx
  subst wtx6
  have hP1 : va_P G.1 vwCl (cAll G n9 d sd h0 t0 t1 b0 s0 i0 e0 e1 e2 e3 aN aT aS0 aS1 pi aB L1 sg6 ik z tk en mo gN gT gS0 gS1 gB ++ mAll G Z sd h7 uq tx rp re pg tr bk kp jk sa se sm) H1 := hP1
  have hD1 : va_D A (cAll G n9 d sd h0 t0 t1 b0 s0 i0 e0 e1 e2 e3 aN aT aS0 aS1 pi aB L1 sg6 ik z tk en mo gN gT gS0 gS1 gB ++ mAll G Z sd h7 uq tx rp re pg tr bk kp jk sa se sm) := hD1
  rw [← show _ = _ from wsg6] at hR1
  refine lv_aload_n hx hb dL_law_161 rfl (lv_at hl 1 rfl) ?_
  refine lw_arg kx hX hbl hbA hS1 hI hn hl (k := 1) (by decide) rfl g0 dL_law_162 dL_law_163 dL_law_164 dL_law_165 dL_law_166 ?_
  have cz := c_X7_write l G Z L sd h7 (uq 1) (uq 2) (uq 3) (uq 4) (uq 5) (uq 6) (uq 7) (uq 8) (uq 9) (uq 10) (uq 11) tx p0 cL
  rw [kupd_same f1] at cz
  refine k_calli (kRunV (As := [.int p0]) (rest := [.int r1]) kx cz q_736 q_733 q_36 q_734 q_735 nX7_write ⟨Nat.le_of_ble_eq_true rfl, Nat.le_of_ble_eq_true rfl⟩ hK hP1 hD1 (kPm_skipB (kPm_keep (kPm_keep (kPm_none _)))).ctx 0 7 rfl rfl rfl rfl hl.1 (Nat.le_of_ble_eq_true rfl) dL_law_167 hf) hP1 hD1 hS1 hA (kPm_skipB (kPm_keep (kPm_keep (kPm_none _)))).ctx (fun _ => rfl) (fun r2 u2 H2 locs2 hw2 hP2 hD2 hS2 => ?_)
  obtain ⟨Z7, tx7⟩ := u2
  obtain ⟨er2, wZ7, wtx7⟩ := hw2
  rw [← show _ = _ from wZ7] at hR1
  rw [← show _ = _ from wtx7] at hR1
  have hP2 : va_P G.1 vwCl (cAll G n9 d sd h0 t0 t1 b0 s0 i0 e0 e1 e2 e3 aN aT aS0 aS1 pi aB L1 sg6 ik z tk en mo gN gT gS0 gS1 gB ++ mAll G Z7 sd h7 uq tx7 rp re pg tr bk kp jk sa se sm) H2 := hP2
  have hD2 : va_D A (cAll G n9 d sd h0 t0 t1 b0 s0 i0 e0 e1 e2 e3 aN aT aS0 aS1 pi aB L1 sg6 ik z tk en mo gN gT gS0 gS1 gB ++ mAll G Z7 sd h7 uq tx7 rp re pg tr bk kp jk sa se sm) := hD2
  refine lv_icmp_eq (tgt := 903) hx hb dL_law_170 (by decide) (fun _ => next _ _ ⟨_, _, _, _, _, _, _, _, _, _, _, _, _, _, _, _, _, _, _, _, _, _, _, _, _, _, _, hR1, hP2, hD2⟩ hS2) (fun c9 => absurd ((show r1 = _ from er1).trans (ea.trans (show r2 = _ from er2).symm)) c9)
set_option maxHeartbeats 4000000 in
set_option maxRecDepth 100000 in
theorem lw_wipe (kx : kX p s m args meth c cL_law 4 rr RL) (hK : kK G s) (hX : va_X b n0 xs s s.heap) (hbl : b < s.heap.size) (hbA : ¬ A b) (hA : ∀ q, s.heap.size ≤ q → A q) (hf : cells ≤ room_1.cells ∧ slots ≤ room_1.slots) (hS : va_S A s.heap H locs) (hI : I + 4 ≤ n0) (hn : n0 ≤ 2048) (hl : lv_has ls 4 [(3, .int (nI I)), (2, .ref h7), (1, .ref h0), (0, .ref b)]) (hs : lwS G n9 A h0 t0 t1 b0 s0 i0 e0 e1 e2 e3 aN aT aS0 aS1 aB h7 uq H) (next : ∀ (H1 : Heap) (locs1 : List Loc), lwS G n9 A h0 t0 t1 b0 s0 i0 e0 e1 e2 e3 aN aT aS0 aS1 aB h7 uq H1 → va_S A s.heap H1 locs1 → W p l e room_1 s m args below meth c H1 locs1 cells slots Qq (F0 m 903 ls [])) : W p l e room_1 s m args below meth c H locs cells slots Qq (F0 m 175 ls []) := by
  have hx := kx.1
  have hb := kx.2.1
  obtain ⟨d, sd, pi, L, sg, ik, z, tk, en, mo, gN, gT, gS0, gS1, gB, Z, tx, rp, re, pg, tr, bk, kp, jk, sa, se, sm, hR, hP, hD⟩ := hs
  obtain ⟨n14, bd, cL, ez, ⟨f1, f2, f3⟩, hw, hB, htx, hk, hv⟩ := id hR
  obtain ⟨ea, hR1⟩ := st_wipe hR
  refine lv_aload_n hx hb dL_law_175 rfl (lv_at hl 2 rfl) ?_
  refine k_calli (kRunV (As := []) (rest := []) kx (c_X6_wipe l G (nI d) sd h0 t0 aN aT b0 s0 i0 e0 L sg t1) q_302 q_299 q_29 q_300 q_301 nX6_wipe ⟨Nat.le_of_ble_eq_true rfl, Nat.le_of_ble_eq_true rfl⟩ hK hP hD (kPm_left (kPm_left (kPm_keep (kPm_keep (kPm_keep (kPm_none _)))))).ctx 0 6 rfl rfl rfl rfl hl.1 (Nat.le_of_ble_eq_true rfl) dL_law_176 hf) hP hD hS hA (kPm_left (kPm_left (kPm_keep (kPm_keep (kPm_keep (kPm_none _)))))).ctx (fun _ => rfl) (fun r1 u1 H1 locs1 hw1 hP1 hD1 hS1 => ?_)
  have er1 := hw1
  have hP1 : va_P G.1 vwCl (cAll G n9 d sd h0 t0 t1 b0 s0 i0 e0 e1 e2 e3 aN aT aS0 aS1 pi aB 0 sg ik z tk en mo gN gT gS0 gS1 gB ++ mAll G Z sd h7 uq tx rp re pg tr bk kp jk sa se sm) H1 := hP1
  have hD1 : va_D A (cAll G n9 d sd h0 t0 t1 b0 s0 i0 e0 e1 e2 e3 aN aT aS0 aS1 pi aB 0 sg ik z tk en mo gN gT gS0 gS1 gB ++ mAll G Z sd h7 uq tx rp re pg tr bk kp jk sa se sm) := hD1
  refine lv_aload_n hx hb dL_law_179 rfl (lv_at hl 1 rfl) ?_
  have cz := c_X7_wipe l G Z sd h7 (uq 1) (uq 2) (uq 3) (uq 4) (uq 5) (uq 6) (uq 7) (uq 8) (uq 9) (uq 10) (uq 11)
  refine k_calli (kRunV (As := []) (rest := [.int r1]) kx cz q_744 q_741 q_36 q_742 q_743 nX7_wipe ⟨Nat.le_of_ble_eq_true rfl, Nat.le_of_ble_eq_true rfl⟩ hK hP1 hD1 (kPm_skipB (kPm_keep (kPm_none _))).ctx 0 7 rfl rfl rfl rfl hl.1 (Nat.le_of_ble_eq_true rfl) dL_law_180 hf) hP1 hD1 hS1 hA (kPm_skipB (kPm_keep (kPm_none _))).ctx (fun _ => rfl) (fun r2 u2 H2 locs2 hw2 hP2 hD2 hS2 => ?_)
  have er2 := hw2
  have hP2 : va_P G.1 vwCl (cAll G n9 d sd h0 t0 t1 b0 s0 i0 e0 e1 e2 e3 aN aT aS0 aS1 pi aB 0 sg ik z tk en mo gN gT gS0 gS1 gB ++ mAll G (upd (upd Z 0 0) 2 0) sd h7 uq tx rp re pg tr bk kp jk sa se sm) H2 := hP2
  have hD2 : va_D A (cAll G n9 d sd h0 t0 t1 b0 s0 i0 e0 e1 e2 e3 aN aT aS0 aS1 pi aB 0 sg ik z tk en mo gN gT gS0 gS1 gB ++ mAll G (upd (upd Z 0 0) 2 0) sd h7 uq tx rp re pg tr bk kp jk sa se sm) := hD2
  refine lv_icmp_eq (tgt := 903) hx hb dL_law_183 (by decide) (fun _ => next _ _ ⟨_, _, _, _, _, _, _, _, _, _, _, _, _, _, _, _, _, _, _, _, _, _, _, _, _, _, _, hR1, hP2, hD2⟩ hS2) (fun c9 => absurd ((show r1 = _ from er1).trans (ea.trans (show r2 = _ from er2).symm)) c9)
set_option maxHeartbeats 4000000 in
set_option maxRecDepth 100000 in
theorem lw_tell (kx : kX p s m args meth c cL_law 4 rr RL) (hK : kK G s) (hX : va_X b n0 xs s s.heap) (hbl : b < s.heap.size) (hbA : ¬ A b) (hA : ∀ q, s.heap.size ≤ q → A q) (hf : cells ≤ room_1.cells ∧ slots ≤ room_1.slots) (hS : va_S A s.heap H locs) (hI : I + 4 ≤ n0) (hn : n0 ≤ 2048) (hl : lv_has ls 4 [(3, .int (nI I)), (2, .ref h7), (1, .ref h0), (0, .ref b)]) (hs : lwS G n9 A h0 t0 t1 b0 s0 i0 e0 e1 e2 e3 aN aT aS0 aS1 aB h7 uq H) (next : ∀ (H1 : Heap) (locs1 : List Loc), lwS G n9 A h0 t0 t1 b0 s0 i0 e0 e1 e2 e3 aN aT aS0 aS1 aB h7 uq H1 → va_S A s.heap H1 locs1 → W p l e room_1 s m args below meth c H1 locs1 cells slots Qq (F0 m 903 ls [])) : W p l e room_1 s m args below meth c H locs cells slots Qq (F0 m 336 ls []) := by
  have hx := kx.1
  have hb := kx.2.1
  obtain ⟨d, sd, pi, L, sg, ik, z, tk, en, mo, gN, gT, gS0, gS1, gB, Z, tx, rp, re, pg, tr, bk, kp, jk, sa, se, sm, hR, hP, hD⟩ := hs
  obtain ⟨p0, g0⟩ : ∃ v, xs (I + 1) = v := ⟨_, rfl⟩
  obtain ⟨p1, g1⟩ : ∃ v, xs (I + 2) = v := ⟨_, rfl⟩
  obtain ⟨p2, g2⟩ : ∃ v, xs (I + 3) = v := ⟨_, rfl⟩
  by_cases c0 : p0 = 0
  · subst c0
    obtain ⟨n14, bd, cL, ez, ⟨f1, f2, f3⟩, hw, hB, htx, hk, hv⟩ := id hR
    obtain ⟨ea, d1, pi1, st_ac, st_bo, hR1⟩ := st_tell_0 hR p1 p2
    refine lv_aload_n hx hb dL_law_336 rfl (lv_at hl 2 rfl) ?_
    refine lw_arg kx hX hbl hbA hS hI hn hl (k := 1) (by decide) rfl g0 dL_law_337 dL_law_338 dL_law_339 dL_law_340 dL_law_341 ?_
    refine lw_arg kx hX hbl hbA hS hI hn hl (k := 2) (by decide) rfl g1 dL_law_342 dL_law_343 dL_law_344 dL_law_345 dL_law_346 ?_
    refine lw_arg kx hX hbl hbA hS hI hn hl (k := 3) (by decide) rfl g2 dL_law_347 dL_law_348 dL_law_349 dL_law_350 dL_law_351 ?_
    refine k_calli (kRunV (As := [.int 0, .int p1, .int p2]) (rest := []) kx (c_X6_tell l G d sd h0 t0 aN aT b0 s0 i0 e0 n9 pi aB gN gB 0 p1 p2 bd hB.1 n14 hw.2.2.2.2.2.1) q_502 q_499 q_29 q_500 q_501 nX6_tell ⟨Nat.le_of_ble_eq_true rfl, Nat.le_of_ble_eq_true rfl⟩ hK hP hD (kPm_left (kPm_app (kPm_keep (kPm_skip (kPm_skip (kPm_keep (kPm_none _))))) (kPm_keepB (kPm_skipB (kPm_skipB (kPm_skipB (kPm_all _))))))).ctx 0 6 rfl rfl rfl rfl hl.1 (Nat.le_of_ble_eq_true rfl) dL_law_352 hf) hP hD hS hA (kPm_left (kPm_app (kPm_keep (kPm_skip (kPm_skip (kPm_keep (kPm_none _))))) (kPm_keepB (kPm_skipB (kPm_skipB (kPm_skipB (kPm_all _))))))).ctx (fun _ => rfl) (fun r1 u1 H1 locs1 hw1 hP1 hD1 hS1 => ?_)
    obtain ⟨gN6, ac6, bo6, gB6⟩ := u1
    obtain ⟨er1, wgN6, wac6, wbo6, wgB6⟩ := hw1
    have wac6 : ac6 = kc (nI d1) := (show ac6 = _ from wac6).trans st_ac
    subst wac6
    have wbo6 : bo6 = kAO aB pi1 := (show bo6 = _ from wbo6).trans (st_bo aB)
    subst wbo6
    have hP1 : va_P G.1 vwCl (cAll G n9 d1 sd h0 t0 t1 b0 s0 i0 e0 e1 e2 e3 aN aT aS0 aS1 pi1 aB L sg ik z tk en mo gN6 gT gS0 gS1 gB6 ++ mAll G Z sd h7 uq tx rp re pg tr bk kp jk sa se sm) H1 := hP1
    have hD1 : va_D A (cAll G n9 d1 sd h0 t0 t1 b0 s0 i0 e0 e1 e2 e3 aN aT aS0 aS1 pi1 aB L sg ik z tk en mo gN6 gT gS0 gS1 gB6 ++ mAll G Z sd h7 uq tx rp re pg tr bk kp jk sa se sm) := hD1
    rw [← show _ = _ from wgN6] at hR1
    rw [← show _ = _ from wgB6] at hR1
    refine lv_aload_n hx hb dL_law_355 rfl (lv_at hl 1 rfl) ?_
    refine lw_arg kx hX hbl hbA hS1 hI hn hl (k := 1) (by decide) rfl g0 dL_law_356 dL_law_357 dL_law_358 dL_law_359 dL_law_360 ?_
    refine lw_arg kx hX hbl hbA hS1 hI hn hl (k := 2) (by decide) rfl g1 dL_law_361 dL_law_362 dL_law_363 dL_law_364 dL_law_365 ?_
    refine lw_arg kx hX hbl hbA hS1 hI hn hl (k := 3) (by decide) rfl g2 dL_law_366 dL_law_367 dL_law_368 dL_law_369 dL_law_370 ?_
    have cz := c_X7_tell_0 l G Z d sd h7 (uq 1) (uq 2) (uq 3) (uq 4) (uq 5) (uq 6) (uq 7) (uq 8) (uq 9) (uq 10) (uq 11) pg bk p1 p2 bd
    rw [kupd_same f2] at cz
    refine k_calli (kRunV (As := [.int 0, .int p1, .int p2]) (rest := [.int r1]) kx cz q_859 q_856 q_36 q_857 q_858 nX7_tell ⟨Nat.le_of_ble_eq_true rfl, Nat.le_of_ble_eq_true rfl⟩ hK hP1 hD1 (kPm_skipB (kPm_keep (kPm_skip (kPm_skip (kPm_skip (kPm_keep (kPm_skip (kPm_keep (kPm_none _))))))))).ctx 0 7 rfl rfl rfl rfl hl.1 (Nat.le_of_ble_eq_true rfl) dL_law_371 hf) hP1 hD1 hS1 hA (kPm_skipB (kPm_keep (kPm_skip (kPm_skip (kPm_skip (kPm_keep (kPm_skip (kPm_keep (kPm_none _))))))))).ctx (fun _ => rfl) (fun r2 u2 H2 locs2 hw2 hP2 hD2 hS2 => ?_)
    obtain ⟨Z7, pg7, bk7⟩ := u2
    obtain ⟨er2, wZ7, wpg7, wbk7⟩ := hw2
    rw [← show _ = _ from wZ7] at hR1
    rw [← show _ = _ from wpg7] at hR1
    rw [← show _ = _ from wbk7] at hR1
    have hP2 : va_P G.1 vwCl (cAll G n9 d1 sd h0 t0 t1 b0 s0 i0 e0 e1 e2 e3 aN aT aS0 aS1 pi1 aB L sg ik z tk en mo gN6 gT gS0 gS1 gB6 ++ mAll G Z7 sd h7 uq tx rp re pg7 tr bk7 kp jk sa se sm) H2 := hP2
    have hD2 : va_D A (cAll G n9 d1 sd h0 t0 t1 b0 s0 i0 e0 e1 e2 e3 aN aT aS0 aS1 pi1 aB L sg ik z tk en mo gN6 gT gS0 gS1 gB6 ++ mAll G Z7 sd h7 uq tx rp re pg7 tr bk7 kp jk sa se sm) := hD2
    refine lv_icmp_eq (tgt := 903) hx hb dL_law_374 (by decide) (fun _ => next _ _ ⟨_, _, _, _, _, _, _, _, _, _, _, _, _, _, _, _, _, _, _, _, _, _, _, _, _, _, _, hR1, hP2, hD2⟩ hS2) (fun c9 => absurd ((show r1 = _ from er1).trans (ea.trans (show r2 = _ from er2).symm)) c9)
  · by_cases c1 : p0 = 1
    · subst c1
      obtain ⟨n14, bd, cL, ez, ⟨f1, f2, f3⟩, hw, hB, htx, hk, hv⟩ := id hR
      obtain ⟨ea, d1, pi1, st_ac, st_bo, hR1⟩ := st_tell_1 hR p1 p2
      refine lv_aload_n hx hb dL_law_336 rfl (lv_at hl 2 rfl) ?_
      refine lw_arg kx hX hbl hbA hS hI hn hl (k := 1) (by decide) rfl g0 dL_law_337 dL_law_338 dL_law_339 dL_law_340 dL_law_341 ?_
      refine lw_arg kx hX hbl hbA hS hI hn hl (k := 2) (by decide) rfl g1 dL_law_342 dL_law_343 dL_law_344 dL_law_345 dL_law_346 ?_
      refine lw_arg kx hX hbl hbA hS hI hn hl (k := 3) (by decide) rfl g2 dL_law_347 dL_law_348 dL_law_349 dL_law_350 dL_law_351 ?_
      refine k_calli (kRunV (As := [.int 1, .int p1, .int p2]) (rest := []) kx (c_X6_tell l G d sd h0 t0 aN aT b0 s0 i0 e0 n9 pi aB gN gB 1 p1 p2 bd hB.1 n14 hw.2.2.2.2.2.1) q_502 q_499 q_29 q_500 q_501 nX6_tell ⟨Nat.le_of_ble_eq_true rfl, Nat.le_of_ble_eq_true rfl⟩ hK hP hD (kPm_left (kPm_app (kPm_keep (kPm_skip (kPm_skip (kPm_keep (kPm_none _))))) (kPm_keepB (kPm_skipB (kPm_skipB (kPm_skipB (kPm_all _))))))).ctx 0 6 rfl rfl rfl rfl hl.1 (Nat.le_of_ble_eq_true rfl) dL_law_352 hf) hP hD hS hA (kPm_left (kPm_app (kPm_keep (kPm_skip (kPm_skip (kPm_keep (kPm_none _))))) (kPm_keepB (kPm_skipB (kPm_skipB (kPm_skipB (kPm_all _))))))).ctx (fun _ => rfl) (fun r1 u1 H1 locs1 hw1 hP1 hD1 hS1 => ?_)
      obtain ⟨gN6, ac6, bo6, gB6⟩ := u1
      obtain ⟨er1, wgN6, wac6, wbo6, wgB6⟩ := hw1
      have wac6 : ac6 = kc (nI d1) := (show ac6 = _ from wac6).trans st_ac
      subst wac6
      have wbo6 : bo6 = kAO aB pi1 := (show bo6 = _ from wbo6).trans (st_bo aB)
      subst wbo6
      have hP1 : va_P G.1 vwCl (cAll G n9 d1 sd h0 t0 t1 b0 s0 i0 e0 e1 e2 e3 aN aT aS0 aS1 pi1 aB L sg ik z tk en mo gN6 gT gS0 gS1 gB6 ++ mAll G Z sd h7 uq tx rp re pg tr bk kp jk sa se sm) H1 := hP1
      have hD1 : va_D A (cAll G n9 d1 sd h0 t0 t1 b0 s0 i0 e0 e1 e2 e3 aN aT aS0 aS1 pi1 aB L sg ik z tk en mo gN6 gT gS0 gS1 gB6 ++ mAll G Z sd h7 uq tx rp re pg tr bk kp jk sa se sm) := hD1
      rw [← show _ = _ from wgN6] at hR1
      rw [← show _ = _ from wgB6] at hR1
      refine lv_aload_n hx hb dL_law_355 rfl (lv_at hl 1 rfl) ?_
      refine lw_arg kx hX hbl hbA hS1 hI hn hl (k := 1) (by decide) rfl g0 dL_law_356 dL_law_357 dL_law_358 dL_law_359 dL_law_360 ?_
      refine lw_arg kx hX hbl hbA hS1 hI hn hl (k := 2) (by decide) rfl g1 dL_law_361 dL_law_362 dL_law_363 dL_law_364 dL_law_365 ?_
      refine lw_arg kx hX hbl hbA hS1 hI hn hl (k := 3) (by decide) rfl g2 dL_law_366 dL_law_367 dL_law_368 dL_law_369 dL_law_370 ?_
      have cz := c_X7_tell_1 l G Z d sd h7 (uq 1) (uq 2) (uq 3) (uq 4) (uq 5) (uq 6) (uq 7) (uq 8) (uq 9) (uq 10) (uq 11) pg bk p1 p2 bd
      rw [kupd_same f2] at cz
      refine k_calli (kRunV (As := [.int 1, .int p1, .int p2]) (rest := [.int r1]) kx cz q_859 q_856 q_36 q_857 q_858 nX7_tell ⟨Nat.le_of_ble_eq_true rfl, Nat.le_of_ble_eq_true rfl⟩ hK hP1 hD1 (kPm_skipB (kPm_keep (kPm_skip (kPm_skip (kPm_skip (kPm_keep (kPm_skip (kPm_keep (kPm_none _))))))))).ctx 0 7 rfl rfl rfl rfl hl.1 (Nat.le_of_ble_eq_true rfl) dL_law_371 hf) hP1 hD1 hS1 hA (kPm_skipB (kPm_keep (kPm_skip (kPm_skip (kPm_skip (kPm_keep (kPm_skip (kPm_keep (kPm_none _))))))))).ctx (fun _ => rfl) (fun r2 u2 H2 locs2 hw2 hP2 hD2 hS2 => ?_)
      obtain ⟨Z7, pg7, bk7⟩ := u2
      obtain ⟨er2, wZ7, wpg7, wbk7⟩ := hw2
      rw [← show _ = _ from wZ7] at hR1
      rw [← show _ = _ from wpg7] at hR1
      rw [← show _ = _ from wbk7] at hR1
      have hP2 : va_P G.1 vwCl (cAll G n9 d1 sd h0 t0 t1 b0 s0 i0 e0 e1 e2 e3 aN aT aS0 aS1 pi1 aB L sg ik z tk en mo gN6 gT gS0 gS1 gB6 ++ mAll G Z7 sd h7 uq tx rp re pg7 tr bk7 kp jk sa se sm) H2 := hP2
      have hD2 : va_D A (cAll G n9 d1 sd h0 t0 t1 b0 s0 i0 e0 e1 e2 e3 aN aT aS0 aS1 pi1 aB L sg ik z tk en mo gN6 gT gS0 gS1 gB6 ++ mAll G Z7 sd h7 uq tx rp re pg7 tr bk7 kp jk sa se sm) := hD2
      refine lv_icmp_eq (tgt := 903) hx hb dL_law_374 (by decide) (fun _ => next _ _ ⟨_, _, _, _, _, _, _, _, _, _, _, _, _, _, _, _, _, _, _, _, _, _, _, _, _, _, _, hR1, hP2, hD2⟩ hS2) (fun c9 => absurd ((show r1 = _ from er1).trans (ea.trans (show r2 = _ from er2).symm)) c9)
    · skip
      obtain ⟨n14, bd, cL, ez, ⟨f1, f2, f3⟩, hw, hB, htx, hk, hv⟩ := id hR
      obtain ⟨ea, d1, pi1, st_ac, st_bo, hR1⟩ := st_tell_x hR p0 p1 p2 c0 c1
      refine lv_aload_n hx hb dL_law_336 rfl (lv_at hl 2 rfl) ?_
      refine lw_arg kx hX hbl hbA hS hI hn hl (k := 1) (by decide) rfl g0 dL_law_337 dL_law_338 dL_law_339 dL_law_340 dL_law_341 ?_
      refine lw_arg kx hX hbl hbA hS hI hn hl (k := 2) (by decide) rfl g1 dL_law_342 dL_law_343 dL_law_344 dL_law_345 dL_law_346 ?_
      refine lw_arg kx hX hbl hbA hS hI hn hl (k := 3) (by decide) rfl g2 dL_law_347 dL_law_348 dL_law_349 dL_law_350 dL_law_351 ?_
      refine k_calli (kRunV (As := [.int p0, .int p1, .int p2]) (rest := []) kx (c_X6_tell l G d sd h0 t0 aN aT b0 s0 i0 e0 n9 pi aB gN gB p0 p1 p2 bd hB.1 n14 hw.2.2.2.2.2.1) q_502 q_499 q_29 q_500 q_501 nX6_tell ⟨Nat.le_of_ble_eq_true rfl, Nat.le_of_ble_eq_true rfl⟩ hK hP hD (kPm_left (kPm_app (kPm_keep (kPm_skip (kPm_skip (kPm_keep (kPm_none _))))) (kPm_keepB (kPm_skipB (kPm_skipB (kPm_skipB (kPm_all _))))))).ctx 0 6 rfl rfl rfl rfl hl.1 (Nat.le_of_ble_eq_true rfl) dL_law_352 hf) hP hD hS hA (kPm_left (kPm_app (kPm_keep (kPm_skip (kPm_skip (kPm_keep (kPm_none _))))) (kPm_keepB (kPm_skipB (kPm_skipB (kPm_skipB (kPm_all _))))))).ctx (fun _ => rfl) (fun r1 u1 H1 locs1 hw1 hP1 hD1 hS1 => ?_)
      obtain ⟨gN6, ac6, bo6, gB6⟩ := u1
      obtain ⟨er1, wgN6, wac6, wbo6, wgB6⟩ := hw1
      have wac6 : ac6 = kc (nI d1) := (show ac6 = _ from wac6).trans st_ac
      subst wac6
      have wbo6 : bo6 = kAO aB pi1 := (show bo6 = _ from wbo6).trans (st_bo aB)
      subst wbo6
      have hP1 : va_P G.1 vwCl (cAll G n9 d1 sd h0 t0 t1 b0 s0 i0 e0 e1 e2 e3 aN aT aS0 aS1 pi1 aB L sg ik z tk en mo gN6 gT gS0 gS1 gB6 ++ mAll G Z sd h7 uq tx rp re pg tr bk kp jk sa se sm) H1 := hP1
      have hD1 : va_D A (cAll G n9 d1 sd h0 t0 t1 b0 s0 i0 e0 e1 e2 e3 aN aT aS0 aS1 pi1 aB L sg ik z tk en mo gN6 gT gS0 gS1 gB6 ++ mAll G Z sd h7 uq tx rp re pg tr bk kp jk sa se sm) := hD1
      rw [← show _ = _ from wgN6] at hR1
      rw [← show _ = _ from wgB6] at hR1
      refine lv_aload_n hx hb dL_law_355 rfl (lv_at hl 1 rfl) ?_
      refine lw_arg kx hX hbl hbA hS1 hI hn hl (k := 1) (by decide) rfl g0 dL_law_356 dL_law_357 dL_law_358 dL_law_359 dL_law_360 ?_
      refine lw_arg kx hX hbl hbA hS1 hI hn hl (k := 2) (by decide) rfl g1 dL_law_361 dL_law_362 dL_law_363 dL_law_364 dL_law_365 ?_
      refine lw_arg kx hX hbl hbA hS1 hI hn hl (k := 3) (by decide) rfl g2 dL_law_366 dL_law_367 dL_law_368 dL_law_369 dL_law_370 ?_
      have cz := c_X7_tell_x l G Z sd h7 (uq 1) (uq 2) (uq 3) (uq 4) (uq 5) (uq 6) (uq 7) (uq 8) (uq 9) (uq 10) (uq 11) p0 p1 p2 c0 c1
      refine k_calli (kRunV (As := [.int p0, .int p1, .int p2]) (rest := [.int r1]) kx cz q_859 q_856 q_36 q_857 q_858 nX7_tell ⟨Nat.le_of_ble_eq_true rfl, Nat.le_of_ble_eq_true rfl⟩ hK hP1 hD1 (kPm_skipB (kPm_keep (kPm_none _))).ctx 0 7 rfl rfl rfl rfl hl.1 (Nat.le_of_ble_eq_true rfl) dL_law_371 hf) hP1 hD1 hS1 hA (kPm_skipB (kPm_keep (kPm_none _))).ctx (fun _ => rfl) (fun r2 u2 H2 locs2 hw2 hP2 hD2 hS2 => ?_)
      have er2 := hw2
      have hP2 : va_P G.1 vwCl (cAll G n9 d1 sd h0 t0 t1 b0 s0 i0 e0 e1 e2 e3 aN aT aS0 aS1 pi1 aB L sg ik z tk en mo gN6 gT gS0 gS1 gB6 ++ mAll G (upd Z 0 0) sd h7 uq tx rp re pg tr bk kp jk sa se sm) H2 := hP2
      have hD2 : va_D A (cAll G n9 d1 sd h0 t0 t1 b0 s0 i0 e0 e1 e2 e3 aN aT aS0 aS1 pi1 aB L sg ik z tk en mo gN6 gT gS0 gS1 gB6 ++ mAll G (upd Z 0 0) sd h7 uq tx rp re pg tr bk kp jk sa se sm) := hD2
      refine lv_icmp_eq (tgt := 903) hx hb dL_law_374 (by decide) (fun _ => next _ _ ⟨_, _, _, _, _, _, _, _, _, _, _, _, _, _, _, _, _, _, _, _, _, _, _, _, _, _, _, hR1, hP2, hD2⟩ hS2) (fun c9 => absurd ((show r1 = _ from er1).trans (ea.trans (show r2 = _ from er2).symm)) c9)
end LW
