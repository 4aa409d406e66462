section LW
variable {p : Program} {l : Launch} {e : Env} {s : State} {m : MethodId} {args : Array Value} {below : List Frame} {meth : Method} {c : Code} {H : Heap} {locs : List Loc} {cells slots : Nat} {Qq : State → Prop} {rr : Option FieldType}
variable {ls : Array Slot} {rest : List Value} {G : kG} {A : Nat → Prop} {b n0 I n9 : Nat} {xs : Nat → Int32} {h0 t0 t1 b0 s0 i0 e0 e1 e2 e3 : Nat} {aN aT aS0 aS1 : Nat → Nat} {aB : Nat → Nat → Nat} {h7 : Nat} {uq : Nat → Nat}
set_option maxHeartbeats 4000000 in
set_option maxRecDepth 100000 in
theorem lw_pass (kx : kX p s m args meth c cL_law 4 rr RL) (hK : kK G s) (hX : va_X b n0 xs s s.heap) (hbl : b < s.heap.size) (hbA : ¬ A b) (hA : ∀ q, s.heap.size ≤ q → A q) (hf : cells ≤ room_1.cells ∧ slots ≤ room_1.slots) (hS : va_S A s.heap H locs) (hI : I + 4 ≤ n0) (hn : n0 ≤ 2048) (hl : lv_has ls 4 [(3, .int (nI I)), (2, .ref h7), (1, .ref h0), (0, .ref b)]) (hs : lwS G n9 A h0 t0 t1 b0 s0 i0 e0 e1 e2 e3 aN aT aS0 aS1 aB h7 uq H) (next : ∀ (H1 : Heap) (locs1 : List Loc), lwS G n9 A h0 t0 t1 b0 s0 i0 e0 e1 e2 e3 aN aT aS0 aS1 aB h7 uq H1 → va_S A s.heap H1 locs1 → W p l e room_1 s m args below meth c H1 locs1 cells slots Qq (F0 m 903 ls [])) : W p l e room_1 s m args below meth c H locs cells slots Qq (F0 m 313 ls []) := by
  have hx := kx.1
  have hb := kx.2.1
  obtain ⟨d, sd, pi, L, sg, ik, z, tk, en, mo, gN, gT, gS0, gS1, gB, Z, tx, rp, re, pg, tr, bk, kp, jk, sa, se, sm, hR, hP, hD⟩ := hs
  obtain ⟨p0, g0⟩ : ∃ v, xs (I + 1) = v := ⟨_, rfl⟩
  obtain ⟨n14, bd, cL, ez, ⟨f1, f2, f3⟩, hw, hB, htx, hk, hv⟩ := id hR
  obtain ⟨ea, d1, pi1, st_ac, st_bo, hR1⟩ := st_pass hR p0
  refine lv_aload_n hx hb dL_law_313 rfl (lv_at hl 2 rfl) ?_
  refine lw_arg kx hX hbl hbA hS hI hn hl (k := 1) (by decide) rfl g0 dL_law_314 dL_law_315 dL_law_316 dL_law_317 dL_law_318 ?_
  refine k_calli (kRunV (As := [.int p0]) (rest := []) kx (c_X6_pass l G d sd h0 t0 aN aT b0 s0 i0 e0 n9 pi aB gN gB p0 bd hB.1 n14 hw.2.2.2.2.2.1) q_489 q_486 q_29 q_487 q_488 nX6_pass ⟨Nat.le_of_ble_eq_true rfl, Nat.le_of_ble_eq_true rfl⟩ hK hP hD (kPm_left (kPm_app (kPm_keep (kPm_skip (kPm_skip (kPm_keep (kPm_none _))))) (kPm_keepB (kPm_skipB (kPm_skipB (kPm_skipB (kPm_all _))))))).ctx 0 6 rfl rfl rfl rfl hl.1 (Nat.le_of_ble_eq_true rfl) dL_law_319 hf) hP hD hS hA (kPm_left (kPm_app (kPm_keep (kPm_skip (kPm_skip (kPm_keep (kPm_none _))))) (kPm_keepB (kPm_skipB (kPm_skipB (kPm_skipB (kPm_all _))))))).ctx (fun _ => by simp only [List.length_append, kWs_len]; rfl) (fun r1 u1 H1 locs1 hw1 hP1 hD1 hS1 => ?_)
  obtain ⟨gN6, ac6, bo6, gB6⟩ := u1
  obtain ⟨er1, wgN6, wac6, wbo6, wgB6⟩ := hw1
  have wac6 : ac6 = kc (nI d1) := (show ac6 = _ from wac6).trans st_ac
  subst wac6
  have wbo6 : bo6 = kAO aB pi1 := (show bo6 = _ from wbo6).trans (st_bo aB)
  subst wbo6
  have hP1 : va_P G.1 vwCl (cAll G n9 d1 sd h0 t0 t1 b0 s0 i0 e0 e1 e2 e3 aN aT aS0 aS1 pi1 aB L sg ik z tk en mo gN6 gT gS0 gS1 gB6 ++ mAll G Z sd h7 uq tx rp re pg tr bk kp jk sa se sm) H1 := hP1
  have hD1 : va_D A (cAll G n9 d1 sd h0 t0 t1 b0 s0 i0 e0 e1 e2 e3 aN aT aS0 aS1 pi1 aB L sg ik z tk en mo gN6 gT gS0 gS1 gB6 ++ mAll G Z sd h7 uq tx rp re pg tr bk kp jk sa se sm) := hD1
  rw [← show _ = _ from wgN6] at hR1
  rw [← show _ = _ from wgB6] at hR1
  refine lv_aload_n hx hb dL_law_322 rfl (lv_at hl 1 rfl) ?_
  refine lw_arg kx hX hbl hbA hS1 hI hn hl (k := 1) (by decide) rfl g0 dL_law_323 dL_law_324 dL_law_325 dL_law_326 dL_law_327 ?_
  have cz := c_X7_pass l G Z d sd h7 (uq 1) (uq 2) (uq 3) (uq 4) (uq 5) (uq 6) (uq 7) (uq 8) (uq 9) (uq 10) (uq 11) pg tr bk p0 bd
  rw [kupd_same f2] at cz
  try rw [kupd_same f2] at hR1
  try rw [kupd_same f2] at ea
  refine k_calli (kRunV (As := [.int p0]) (rest := [.int r1]) kx cz q_850 q_847 q_36 q_848 q_849 nX7_pass ⟨Nat.le_of_ble_eq_true rfl, Nat.le_of_ble_eq_true rfl⟩ hK hP1 hD1 (kPm_skipB (kPm_keep (kPm_skip (kPm_skip (kPm_skip (kPm_keep (kPm_keep (kPm_keep (kPm_none _))))))))).ctx 0 7 rfl rfl rfl rfl hl.1 (Nat.le_of_ble_eq_true rfl) dL_law_328 hf) hP1 hD1 hS1 hA (kPm_skipB (kPm_keep (kPm_skip (kPm_skip (kPm_skip (kPm_keep (kPm_keep (kPm_keep (kPm_none _))))))))).ctx (fun _ => rfl) (fun r2 u2 H2 locs2 hw2 hP2 hD2 hS2 => ?_)
  obtain ⟨Z7, pg7, tr7, bk7⟩ := u2
  obtain ⟨er2, wZ7, wpg7, wtr7, wbk7⟩ := hw2
  rw [← show _ = _ from wZ7] at hR1
  rw [← show _ = _ from wpg7] at hR1
  rw [← show _ = _ from wbk7] at hR1
  have hP2 : va_P G.1 vwCl (cAll G n9 d1 sd h0 t0 t1 b0 s0 i0 e0 e1 e2 e3 aN aT aS0 aS1 pi1 aB L sg ik z tk en mo gN6 gT gS0 gS1 gB6 ++ mAll G Z7 sd h7 uq tx rp re pg7 tr7 bk7 kp jk sa se sm) H2 := hP2
  have hD2 : va_D A (cAll G n9 d1 sd h0 t0 t1 b0 s0 i0 e0 e1 e2 e3 aN aT aS0 aS1 pi1 aB L sg ik z tk en mo gN6 gT gS0 gS1 gB6 ++ mAll G Z7 sd h7 uq tx rp re pg7 tr7 bk7 kp jk sa se sm) := hD2
  refine lv_icmp_eq (tgt := 903) hx hb dL_law_331 (by decide) (fun _ => next _ _ ⟨_, _, _, _, _, _, _, _, _, _, _, _, _, _, _, _, _, _, _, _, _, _, _, _, _, _, _, hR1, hP2, hD2⟩ hS2) (fun c9 => absurd ((show r1 = _ from er1).trans (ea.trans (show r2 = _ from er2).symm)) c9)
set_option maxHeartbeats 4000000 in
set_option maxRecDepth 100000 in
theorem lw_tell (kx : kX p s m args meth c cL_law 4 rr RL) (hK : kK G s) (hX : va_X b n0 xs s s.heap) (hbl : b < s.heap.size) (hbA : ¬ A b) (hA : ∀ q, s.heap.size ≤ q → A q) (hf : cells ≤ room_1.cells ∧ slots ≤ room_1.slots) (hS : va_S A s.heap H locs) (hI : I + 4 ≤ n0) (hn : n0 ≤ 2048) (hl : lv_has ls 4 [(3, .int (nI I)), (2, .ref h7), (1, .ref h0), (0, .ref b)]) (hs : lwS G n9 A h0 t0 t1 b0 s0 i0 e0 e1 e2 e3 aN aT aS0 aS1 aB h7 uq H) (next : ∀ (H1 : Heap) (locs1 : List Loc), lwS G n9 A h0 t0 t1 b0 s0 i0 e0 e1 e2 e3 aN aT aS0 aS1 aB h7 uq H1 → va_S A s.heap H1 locs1 → W p l e room_1 s m args below meth c H1 locs1 cells slots Qq (F0 m 903 ls [])) : W p l e room_1 s m args below meth c H locs cells slots Qq (F0 m 336 ls []) := by
  have hx := kx.1
  have hb := kx.2.1
  obtain ⟨d, sd, pi, L, sg, ik, z, tk, en, mo, gN, gT, gS0, gS1, gB, Z, tx, rp, re, pg, tr, bk, kp, jk, sa, se, sm, hR, hP, hD⟩ := hs
  obtain ⟨p0, g0⟩ : ∃ v, xs (I + 1) = v := ⟨_, rfl⟩
  obtain ⟨p1, g1⟩ : ∃ v, xs (I + 2) = v := ⟨_, rfl⟩
  obtain ⟨p2, g2⟩ : ∃ v, xs (I + 3) = v := ⟨_, rfl⟩
  by_cases c0 : p0 = 0
  · subst c0
    obtain ⟨n14, bd, cL, ez, ⟨f1, f2, f3⟩, hw, hB, htx, hk, hv⟩ := id hR
    obtain ⟨ea, d1, pi1, st_ac, st_bo, hR1⟩ := st_tell_0 hR p1 p2
    refine lv_aload_n hx hb dL_law_336 rfl (lv_at hl 2 rfl) ?_
    refine lw_arg kx hX hbl hbA hS hI hn hl (k := 1) (by decide) rfl g0 dL_law_337 dL_law_338 dL_law_339 dL_law_340 dL_law_341 ?_
    refine lw_arg kx hX hbl hbA hS hI hn hl (k := 2) (by decide) rfl g1 dL_law_342 dL_law_343 dL_law_344 dL_law_345 dL_law_346 ?_
    refine lw_arg kx hX hbl hbA hS hI hn hl (k := 3) (by decide) rfl g2 dL_law_347 dL_law_348 dL_law_349 dL_law_350 dL_law_351 ?_
    refine k_calli (kRunV (As := [.int 0, .int p1, .int p2]) (rest := []) kx (c_X6_tell l G d sd h0 t0 aN aT b0 s0 i0 e0 n9 pi aB gN gB 0 p1 p2 bd hB.1 n14 hw.2.2.2.2.2.1) q_502 q_499 q_29 q_500 q_501 nX6_tell ⟨Nat.le_of_ble_eq_true rfl, Nat.le_of_ble_eq_true rfl⟩ hK hP hD (kPm_left (kPm_app (kPm_keep (kPm_skip (kPm_skip (kPm_keep (kPm_none _))))) (kPm_keepB (kPm_skipB (kPm_skipB (kPm_skipB (kPm_all _))))))).ctx 0 6 rfl rfl rfl rfl hl.1 (Nat.le_of_ble_eq_true rfl) dL_law_352 hf) hP hD hS hA (kPm_left (kPm_app (kPm_keep (kPm_skip (kPm_skip (kPm_keep (kPm_none _))))) (kPm_keepB (kPm_skipB (kPm_skipB (kPm_skipB (kPm_all _))))))).ctx (fun _ => by simp only [List.length_append, kWs_len]; rfl) (fun r1 u1 H1 locs1 hw1 hP1 hD1 hS1 => ?_)
    obtain ⟨gN6, ac6, bo6, gB6⟩ := u1
    obtain ⟨er1, wgN6, wac6, wbo6, wgB6⟩ := hw1
    have wac6 : ac6 = kc (nI d1) := (show ac6 = _ from wac6).trans st_ac
    subst wac6
    have wbo6 : bo6 = kAO aB pi1 := (show bo6 = _ from wbo6).trans (st_bo aB)
    subst wbo6
    have hP1 : va_P G.1 vwCl (cAll G n9 d1 sd h0 t0 t1 b0 s0 i0 e0 e1 e2 e3 aN aT aS0 aS1 pi1 aB L sg ik z tk en mo gN6 gT gS0 gS1 gB6 ++ mAll G Z sd h7 uq tx rp re pg tr bk kp jk sa se sm) H1 := hP1
    have hD1 : va_D A (cAll G n9 d1 sd h0 t0 t1 b0 s0 i0 e0 e1 e2 e3 aN aT aS0 aS1 pi1 aB L sg ik z tk en mo gN6 gT gS0 gS1 gB6 ++ mAll G Z sd h7 uq tx rp re pg tr bk kp jk sa se sm) := hD1
    rw [← show _ = _ from wgN6] at hR1
    rw [← show _ = _ from wgB6] at hR1
    refine lv_aload_n hx hb dL_law_355 rfl (lv_at hl 1 rfl) ?_
    refine lw_arg kx hX hbl hbA hS1 hI hn hl (k := 1) (by decide) rfl g0 dL_law_356 dL_law_357 dL_law_358 dL_law_359 dL_law_360 ?_
    refine lw_arg kx hX hbl hbA hS1 hI hn hl (k := 2) (by decide) rfl g1 dL_law_361 dL_law_362 dL_law_363 dL_law_364 dL_law_365 ?_
    refine lw_arg kx hX hbl hbA hS1 hI hn hl (k := 3) (by decide) rfl g2 dL_law_366 dL_law_367 dL_law_368 dL_law_369 dL_law_370 ?_
    have cz := c_X7_tell_0 l G Z d sd h7 (uq 1) (uq 2) (uq 3) (uq 4) (uq 5) (uq 6) (uq 7) (uq 8) (uq 9) (uq 10) (uq 11) pg bk p1 p2 bd
    rw [kupd_same f2] at cz
    try rw [kupd_same f2] at hR1
    try rw [kupd_same f2] at ea
    refine k_calli (kRunV (As := [.int 0, .int p1, .int p2]) (rest := [.int r1]) kx cz q_859 q_856 q_36 q_857 q_858 nX7_tell ⟨Nat.le_of_ble_eq_true rfl, Nat.le_of_ble_eq_true rfl⟩ hK hP1 hD1 (kPm_skipB (kPm_keep (kPm_skip (kPm_skip (kPm_skip (kPm_keep (kPm_skip (kPm_keep (kPm_none _))))))))).ctx 0 7 rfl rfl rfl rfl hl.1 (Nat.le_of_ble_eq_true rfl) dL_law_371 hf) hP1 hD1 hS1 hA (kPm_skipB (kPm_keep (kPm_skip (kPm_skip (kPm_skip (kPm_keep (kPm_skip (kPm_keep (kPm_none _))))))))).ctx (fun _ => rfl) (fun r2 u2 H2 locs2 hw2 hP2 hD2 hS2 => ?_)
    obtain ⟨Z7, pg7, bk7⟩ := u2
    obtain ⟨er2, wZ7, wpg7, wbk7⟩ := hw2
    rw [← show _ = _ from wZ7] at hR1
    rw [← show _ = _ from wpg7] at hR1
    rw [← show _ = _ from wbk7] at hR1
    have hP2 : va_P G.1 vwCl (cAll G n9 d1 sd h0 t0 t1 b0 s0 i0 e0 e1 e2 e3 aN aT aS0 aS1 pi1 aB L sg ik z tk en mo gN6 gT gS0 gS1 gB6 ++ mAll G Z7 sd h7 uq tx rp re pg7 tr bk7 kp jk sa se sm) H2 := hP2
    have hD2 : va_D A (cAll G n9 d1 sd h0 t0 t1 b0 s0 i0 e0 e1 e2 e3 aN aT aS0 aS1 pi1 aB L sg ik z tk en mo gN6 gT gS0 gS1 gB6 ++ mAll G Z7 sd h7 uq tx rp re pg7 tr bk7 kp jk sa se sm) := hD2
    refine lv_icmp_eq (tgt := 903) hx hb dL_law_374 (by decide) (fun _ => next _ _ ⟨_, _, _, _, _, _, _, _, _, _, _, _, _, _, _, _, _, _, _, _, _, _, _, _, _, _, _, hR1, hP2, hD2⟩ hS2) (fun c9 => absurd ((show r1 = _ from er1).trans (ea.trans (show r2 = _ from er2).symm)) c9)
  · by_cases c1 : p0 = 1
    · subst c1
      obtain ⟨n14, bd, cL, ez, ⟨f1, f2, f3⟩, hw, hB, htx, hk, hv⟩ := id hR
      obtain ⟨ea, d1, pi1, st_ac, st_bo, hR1⟩ := st_tell_1 hR p1 p2
      refine lv_aload_n hx hb dL_law_336 rfl (lv_at hl 2 rfl) ?_
      refine lw_arg kx hX hbl hbA hS hI hn hl (k := 1) (by decide) rfl g0 dL_law_337 dL_law_338 dL_law_339 dL_law_340 dL_law_341 ?_
      refine lw_arg kx hX hbl hbA hS hI hn hl (k := 2) (by decide) rfl g1 dL_law_342 dL_law_343 dL_law_344 dL_law_345 dL_law_346 ?_
      refine lw_arg kx hX hbl hbA hS hI hn hl (k := 3) (by decide) rfl g2 dL_law_347 dL_law_348 dL_law_349 dL_law_350 dL_law_351 ?_
      refine k_calli (kRunV (As := [.int 1, .int p1, .int p2]) (rest := []) kx (c_X6_tell l G d sd h0 t0 aN aT b0 s0 i0 e0 n9 pi aB gN gB 1 p1 p2 bd hB.1 n14 hw.2.2.2.2.2.1) q_502 q_499 q_29 q_500 q_501 nX6_tell ⟨Nat.le_of_ble_eq_true rfl, Nat.le_of_ble_eq_true rfl⟩ hK hP hD (kPm_left (kPm_app (kPm_keep (kPm_skip (kPm_skip (kPm_keep (kPm_none _))))) (kPm_keepB (kPm_skipB (kPm_skipB (kPm_skipB (kPm_all _))))))).ctx 0 6 rfl rfl rfl rfl hl.1 (Nat.le_of_ble_eq_true rfl) dL_law_352 hf) hP hD hS hA (kPm_left (kPm_app (kPm_keep (kPm_skip (kPm_skip (kPm_keep (kPm_none _))))) (kPm_keepB (kPm_skipB (kPm_skipB (kPm_skipB (kPm_all _))))))).ctx (fun _ => by simp only [List.length_append, kWs_len]; rfl) (fun r1 u1 H1 locs1 hw1 hP1 hD1 hS1 => ?_)
      obtain ⟨gN6, ac6, bo6, gB6⟩ := u1
      obtain ⟨er1, wgN6, wac6, wbo6, wgB6⟩ := hw1
      have wac6 : ac6 = kc (nI d1) := (show ac6 = _ from wac6).trans st_ac
      subst wac6
      have wbo6 : bo6 = kAO aB pi1 := (show bo6 = _ from wbo6).trans (st_bo aB)
      subst wbo6
      have hP1 : va_P G.1 vwCl (cAll G n9 d1 sd h0 t0 t1 b0 s0 i0 e0 e1 e2 e3 aN aT aS0 aS1 pi1 aB L sg ik z tk en mo gN6 gT gS0 gS1 gB6 ++ mAll G Z sd h7 uq tx rp re pg tr bk kp jk sa se sm) H1 := hP1
      have hD1 : va_D A (cAll G n9 d1 sd h0 t0 t1 b0 s0 i0 e0 e1 e2 e3 aN aT aS0 aS1 pi1 aB L sg ik z tk en mo gN6 gT gS0 gS1 gB6 ++ mAll G Z sd h7 uq tx rp re pg tr bk kp jk sa se sm) := hD1
      rw [← show _ = _ from wgN6] at hR1
      rw [← show _ = _ from wgB6] at hR1
      refine lv_aload_n hx hb dL_law_355 rfl (lv_at hl 1 rfl) ?_
      refine lw_arg kx hX hbl hbA hS1 hI hn hl (k := 1) (by decide) rfl g0 dL_law_356 dL_law_357 dL_law_358 dL_law_359 dL_law_360 ?_
      refine lw_arg kx hX hbl hbA hS1 hI hn hl (k := 2) (by decide) rfl g1 dL_law_361 dL_law_362 dL_law_363 dL_law_364 dL_law_365 ?_
      refine lw_arg kx hX hbl hbA hS1 hI hn hl (k := 3) (by decide) rfl g2 dL_law_366 dL_law_367 dL_law_368 dL_law_369 dL_law_370 ?_
      have cz := c_X7_tell_1 l G Z d sd h7 (uq 1) (uq 2) (uq 3) (uq 4) (uq 5) (uq 6) (uq 7) (uq 8) (uq 9) (uq 10) (uq 11) pg bk p1 p2 bd
      rw [kupd_same f2] at cz
      try rw [kupd_same f2] at hR1
      try rw [kupd_same f2] at ea
      refine k_calli (kRunV (As := [.int 1, .int p1, .int p2]) (rest := [.int r1]) kx cz q_859 q_856 q_36 q_857 q_858 nX7_tell ⟨Nat.le_of_ble_eq_true rfl, Nat.le_of_ble_eq_true rfl⟩ hK hP1 hD1 (kPm_skipB (kPm_keep (kPm_skip (kPm_skip (kPm_skip (kPm_keep (kPm_skip (kPm_keep (kPm_none _))))))))).ctx 0 7 rfl rfl rfl rfl hl.1 (Nat.le_of_ble_eq_true rfl) dL_law_371 hf) hP1 hD1 hS1 hA (kPm_skipB (kPm_keep (kPm_skip (kPm_skip (kPm_skip (kPm_keep (kPm_skip (kPm_keep (kPm_none _))))))))).ctx (fun _ => rfl) (fun r2 u2 H2 locs2 hw2 hP2 hD2 hS2 => ?_)
      obtain ⟨Z7, pg7, bk7⟩ := u2
      obtain ⟨er2, wZ7, wpg7, wbk7⟩ := hw2
      rw [← show _ = _ from wZ7] at hR1
      rw [← show _ = _ from wpg7] at hR1
      rw [← show _ = _ from wbk7] at hR1
      have hP2 : va_P G.1 vwCl (cAll G n9 d1 sd h0 t0 t1 b0 s0 i0 e0 e1 e2 e3 aN aT aS0 aS1 pi1 aB L sg ik z tk en mo gN6 gT gS0 gS1 gB6 ++ mAll G Z7 sd h7 uq tx rp re pg7 tr bk7 kp jk sa se sm) H2 := hP2
      have hD2 : va_D A (cAll G n9 d1 sd h0 t0 t1 b0 s0 i0 e0 e1 e2 e3 aN aT aS0 aS1 pi1 aB L sg ik z tk en mo gN6 gT gS0 gS1 gB6 ++ mAll G Z7 sd h7 uq tx rp re pg7 tr bk7 kp jk sa se sm) := hD2
      refine lv_icmp_eq (tgt := 903) hx hb dL_law_374 (by decide) (fun _ => next _ _ ⟨_, _, _, _, _, _, _, _, _, _, _, _, _, _, _, _, _, _, _, _, _, _, _, _, _, _, _, hR1, hP2, hD2⟩ hS2) (fun c9 => absurd ((show r1 = _ from er1).trans (ea.trans (show r2 = _ from er2).symm)) c9)
    · skip
      obtain ⟨n14, bd, cL, ez, ⟨f1, f2, f3⟩, hw, hB, htx, hk, hv⟩ := id hR
      obtain ⟨ea, d1, pi1, st_ac, st_bo, hR1⟩ := st_tell_x hR p0 p1 p2 c0 c1
      refine lv_aload_n hx hb dL_law_336 rfl (lv_at hl 2 rfl) ?_
      refine lw_arg kx hX hbl hbA hS hI hn hl (k := 1) (by decide) rfl g0 dL_law_337 dL_law_338 dL_law_339 dL_law_340 dL_law_341 ?_
      refine lw_arg kx hX hbl hbA hS hI hn hl (k := 2) (by decide) rfl g1 dL_law_342 dL_law_343 dL_law_344 dL_law_345 dL_law_346 ?_
      refine lw_arg kx hX hbl hbA hS hI hn hl (k := 3) (by decide) rfl g2 dL_law_347 dL_law_348 dL_law_349 dL_law_350 dL_law_351 ?_
      refine k_calli (kRunV (As := [.int p0, .int p1, .int p2]) (rest := []) kx (c_X6_tell l G d sd h0 t0 aN aT b0 s0 i0 e0 n9 pi aB gN gB p0 p1 p2 bd hB.1 n14 hw.2.2.2.2.2.1) q_502 q_499 q_29 q_500 q_501 nX6_tell ⟨Nat.le_of_ble_eq_true rfl, Nat.le_of_ble_eq_true rfl⟩ hK hP hD (kPm_left (kPm_app (kPm_keep (kPm_skip (kPm_skip (kPm_keep (kPm_none _))))) (kPm_keepB (kPm_skipB (kPm_skipB (kPm_skipB (kPm_all _))))))).ctx 0 6 rfl rfl rfl rfl hl.1 (Nat.le_of_ble_eq_true rfl) dL_law_352 hf) hP hD hS hA (kPm_left (kPm_app (kPm_keep (kPm_skip (kPm_skip (kPm_keep (kPm_none _))))) (kPm_keepB (kPm_skipB (kPm_skipB (kPm_skipB (kPm_all _))))))).ctx (fun _ => by simp only [List.length_append, kWs_len]; rfl) (fun r1 u1 H1 locs1 hw1 hP1 hD1 hS1 => ?_)
      obtain ⟨gN6, ac6, bo6, gB6⟩ := u1
      obtain ⟨er1, wgN6, wac6, wbo6, wgB6⟩ := hw1
      have wac6 : ac6 = kc (nI d1) := (show ac6 = _ from wac6).trans st_ac
      subst wac6
      have wbo6 : bo6 = kAO aB pi1 := (show bo6 = _ from wbo6).trans (st_bo aB)
      subst wbo6
      have hP1 : va_P G.1 vwCl (cAll G n9 d1 sd h0 t0 t1 b0 s0 i0 e0 e1 e2 e3 aN aT aS0 aS1 pi1 aB L sg ik z tk en mo gN6 gT gS0 gS1 gB6 ++ mAll G Z sd h7 uq tx rp re pg tr bk kp jk sa se sm) H1 := hP1
      have hD1 : va_D A (cAll G n9 d1 sd h0 t0 t1 b0 s0 i0 e0 e1 e2 e3 aN aT aS0 aS1 pi1 aB L sg ik z tk en mo gN6 gT gS0 gS1 gB6 ++ mAll G Z sd h7 uq tx rp re pg tr bk kp jk sa se sm) := hD1
      rw [← show _ = _ from wgN6] at hR1
      rw [← show _ = _ from wgB6] at hR1
      refine lv_aload_n hx hb dL_law_355 rfl (lv_at hl 1 rfl) ?_
      refine lw_arg kx hX hbl hbA hS1 hI hn hl (k := 1) (by decide) rfl g0 dL_law_356 dL_law_357 dL_law_358 dL_law_359 dL_law_360 ?_
      refine lw_arg kx hX hbl hbA hS1 hI hn hl (k := 2) (by decide) rfl g1 dL_law_361 dL_law_362 dL_law_363 dL_law_364 dL_law_365 ?_
      refine lw_arg kx hX hbl hbA hS1 hI hn hl (k := 3) (by decide) rfl g2 dL_law_366 dL_law_367 dL_law_368 dL_law_369 dL_law_370 ?_
      have cz := c_X7_tell_x l G Z sd h7 (uq 1) (uq 2) (uq 3) (uq 4) (uq 5) (uq 6) (uq 7) (uq 8) (uq 9) (uq 10) (uq 11) p0 p1 p2 c0 c1
      refine k_calli (kRunV (As := [.int p0, .int p1, .int p2]) (rest := [.int r1]) kx cz q_859 q_856 q_36 q_857 q_858 nX7_tell ⟨Nat.le_of_ble_eq_true rfl, Nat.le_of_ble_eq_true rfl⟩ hK hP1 hD1 (kPm_skipB (kPm_keep (kPm_none _))).ctx 0 7 rfl rfl rfl rfl hl.1 (Nat.le_of_ble_eq_true rfl) dL_law_371 hf) hP1 hD1 hS1 hA (kPm_skipB (kPm_keep (kPm_none _))).ctx (fun _ => rfl) (fun r2 u2 H2 locs2 hw2 hP2 hD2 hS2 => ?_)
      have er2 := hw2
      have hP2 : va_P G.1 vwCl (cAll G n9 d1 sd h0 t0 t1 b0 s0 i0 e0 e1 e2 e3 aN aT aS0 aS1 pi1 aB L sg ik z tk en mo gN6 gT gS0 gS1 gB6 ++ mAll G (upd Z 0 0) sd h7 uq tx rp re pg tr bk kp jk sa se sm) H2 := hP2
      have hD2 : va_D A (cAll G n9 d1 sd h0 t0 t1 b0 s0 i0 e0 e1 e2 e3 aN aT aS0 aS1 pi1 aB L sg ik z tk en mo gN6 gT gS0 gS1 gB6 ++ mAll G (upd Z 0 0) sd h7 uq tx rp re pg tr bk kp jk sa se sm) := hD2
      refine lv_icmp_eq (tgt := 903) hx hb dL_law_374 (by decide) (fun _ => next _ _ ⟨_, _, _, _, _, _, _, _, _, _, _, _, _, _, _, _, _, _, _, _, _, _, _, _, _, _, _, hR1, hP2, hD2⟩ hS2) (fun c9 => absurd ((show r1 = _ from er1).trans (ea.trans (show r2 = _ from er2).symm)) c9)
set_option maxHeartbeats 4000000 in
set_option maxRecDepth 100000 in
theorem lw_demand (kx : kX p s m args meth c cL_law 4 rr RL) (hK : kK G s) (hX : va_X b n0 xs s s.heap) (hbl : b < s.heap.size) (hbA : ¬ A b) (hA : ∀ q, s.heap.size ≤ q → A q) (hf : cells ≤ room_1.cells ∧ slots ≤ room_1.slots) (hS : va_S A s.heap H locs) (hI : I + 4 ≤ n0) (hn : n0 ≤ 2048) (hl : lv_has ls 4 [(3, .int (nI I)), (2, .ref h7), (1, .ref h0), (0, .ref b)]) (hs : lwS G n9 A h0 t0 t1 b0 s0 i0 e0 e1 e2 e3 aN aT aS0 aS1 aB h7 uq H) (next : ∀ (H1 : Heap) (locs1 : List Loc), lwS G n9 A h0 t0 t1 b0 s0 i0 e0 e1 e2 e3 aN aT aS0 aS1 aB h7 uq H1 → va_S A s.heap H1 locs1 → W p l e room_1 s m args below meth c H1 locs1 cells slots Qq (F0 m 903 ls [])) : W p l e room_1 s m args below meth c H locs cells slots Qq (F0 m 379 ls []) := by
  have hx := kx.1
  have hb := kx.2.1
  obtain ⟨d, sd, pi, L, sg, ik, z, tk, en, mo, gN, gT, gS0, gS1, gB, Z, tx, rp, re, pg, tr, bk, kp, jk, sa, se, sm, hR, hP, hD⟩ := hs
  obtain ⟨p0, g0⟩ : ∃ v, xs (I + 1) = v := ⟨_, rfl⟩
  by_cases c0 : p0 = 0
  · subst c0
    obtain ⟨n14, bd, cL, ez, ⟨f1, f2, f3⟩, hw, hB, htx, hk, hv⟩ := id hR
    obtain ⟨ea, d1, pi1, st_ac, st_bo, hR1⟩ := st_demand_0 hR
    refine lv_aload_n hx hb dL_law_379 rfl (lv_at hl 2 rfl) ?_
    refine lw_arg kx hX hbl hbA hS hI hn hl (k := 1) (by decide) rfl g0 dL_law_380 dL_law_381 dL_law_382 dL_law_383 dL_law_384 ?_
    refine k_calli (kRunV (As := [.int 0]) (rest := []) kx (c_X6_demand l G d sd h0 t0 aN aT b0 s0 i0 e0 n9 pi aB gN gB 0 bd hB.1 n14 hw.2.2.2.2.2.1) q_507 q_504 q_29 q_505 q_506 nX6_demand ⟨Nat.le_of_ble_eq_true rfl, Nat.le_of_ble_eq_true rfl⟩ hK hP hD (kPm_left (kPm_app (kPm_keep (kPm_skip (kPm_skip (kPm_keep (kPm_none _))))) (kPm_keepB (kPm_skipB (kPm_skipB (kPm_skipB (kPm_all _))))))).ctx 0 6 rfl rfl rfl rfl hl.1 (Nat.le_of_ble_eq_true rfl) dL_law_385 hf) hP hD hS hA (kPm_left (kPm_app (kPm_keep (kPm_skip (kPm_skip (kPm_keep (kPm_none _))))) (kPm_keepB (kPm_skipB (kPm_skipB (kPm_skipB (kPm_all _))))))).ctx (fun _ => by simp only [List.length_append, kWs_len]; rfl) (fun r1 u1 H1 locs1 hw1 hP1 hD1 hS1 => ?_)
    obtain ⟨gN6, ac6, bo6, gB6⟩ := u1
    obtain ⟨er1, wgN6, wac6, wbo6, wgB6⟩ := hw1
    have wac6 : ac6 = kc (nI d1) := (show ac6 = _ from wac6).trans st_ac
    subst wac6
    have wbo6 : bo6 = kAO aB pi1 := (show bo6 = _ from wbo6).trans (st_bo aB)
    subst wbo6
    have hP1 : va_P G.1 vwCl (cAll G n9 d1 sd h0 t0 t1 b0 s0 i0 e0 e1 e2 e3 aN aT aS0 aS1 pi1 aB L sg ik z tk en mo gN6 gT gS0 gS1 gB6 ++ mAll G Z sd h7 uq tx rp re pg tr bk kp jk sa se sm) H1 := hP1
    have hD1 : va_D A (cAll G n9 d1 sd h0 t0 t1 b0 s0 i0 e0 e1 e2 e3 aN aT aS0 aS1 pi1 aB L sg ik z tk en mo gN6 gT gS0 gS1 gB6 ++ mAll G Z sd h7 uq tx rp re pg tr bk kp jk sa se sm) := hD1
    rw [← show _ = _ from wgN6] at hR1
    rw [← show _ = _ from wgB6] at hR1
    refine lv_aload_n hx hb dL_law_388 rfl (lv_at hl 1 rfl) ?_
    refine lw_arg kx hX hbl hbA hS1 hI hn hl (k := 1) (by decide) rfl g0 dL_law_389 dL_law_390 dL_law_391 dL_law_392 dL_law_393 ?_
    have cz := c_X7_demand_0 l G Z d sd h7 (uq 1) (uq 2) (uq 3) (uq 4) (uq 5) (uq 6) (uq 7) (uq 8) (uq 9) (uq 10) (uq 11) pg bk bd
    rw [kupd_same f2] at cz
    try rw [kupd_same f2] at hR1
    try rw [kupd_same f2] at ea
    refine k_calli (kRunV (As := [.int 0]) (rest := [.int r1]) kx cz q_874 q_871 q_36 q_872 q_873 nX7_demand ⟨Nat.le_of_ble_eq_true rfl, Nat.le_of_ble_eq_true rfl⟩ hK hP1 hD1 (kPm_skipB (kPm_keep (kPm_skip (kPm_skip (kPm_skip (kPm_keep (kPm_skip (kPm_keep (kPm_none _))))))))).ctx 0 7 rfl rfl rfl rfl hl.1 (Nat.le_of_ble_eq_true rfl) dL_law_394 hf) hP1 hD1 hS1 hA (kPm_skipB (kPm_keep (kPm_skip (kPm_skip (kPm_skip (kPm_keep (kPm_skip (kPm_keep (kPm_none _))))))))).ctx (fun _ => rfl) (fun r2 u2 H2 locs2 hw2 hP2 hD2 hS2 => ?_)
    have er2 := hw2
    have hP2 : va_P G.1 vwCl (cAll G n9 d1 sd h0 t0 t1 b0 s0 i0 e0 e1 e2 e3 aN aT aS0 aS1 pi1 aB L sg ik z tk en mo gN6 gT gS0 gS1 gB6 ++ mAll G (upd (upd Z 0 0) 10 (nI (kNoteD d))) sd h7 uq tx rp re (upd pg 7 ((pg 7) ^^^ 1)) tr (kNoteB d bk pg) kp jk sa se sm) H2 := hP2
    have hD2 : va_D A (cAll G n9 d1 sd h0 t0 t1 b0 s0 i0 e0 e1 e2 e3 aN aT aS0 aS1 pi1 aB L sg ik z tk en mo gN6 gT gS0 gS1 gB6 ++ mAll G (upd (upd Z 0 0) 10 (nI (kNoteD d))) sd h7 uq tx rp re (upd pg 7 ((pg 7) ^^^ 1)) tr (kNoteB d bk pg) kp jk sa se sm) := hD2
    refine lv_icmp_eq (tgt := 903) hx hb dL_law_397 (by decide) (fun _ => next _ _ ⟨_, _, _, _, _, _, _, _, _, _, _, _, _, _, _, _, _, _, _, _, _, _, _, _, _, _, _, hR1, hP2, hD2⟩ hS2) (fun c9 => absurd ((show r1 = _ from er1).trans (ea.trans (show r2 = _ from er2).symm)) c9)
  · by_cases c1 : p0 = 1
    · subst c1
      obtain ⟨n14, bd, cL, ez, ⟨f1, f2, f3⟩, hw, hB, htx, hk, hv⟩ := id hR
      obtain ⟨ea, d1, pi1, st_ac, st_bo, hR1⟩ := st_demand_1 hR
      refine lv_aload_n hx hb dL_law_379 rfl (lv_at hl 2 rfl) ?_
      refine lw_arg kx hX hbl hbA hS hI hn hl (k := 1) (by decide) rfl g0 dL_law_380 dL_law_381 dL_law_382 dL_law_383 dL_law_384 ?_
      refine k_calli (kRunV (As := [.int 1]) (rest := []) kx (c_X6_demand l G d sd h0 t0 aN aT b0 s0 i0 e0 n9 pi aB gN gB 1 bd hB.1 n14 hw.2.2.2.2.2.1) q_507 q_504 q_29 q_505 q_506 nX6_demand ⟨Nat.le_of_ble_eq_true rfl, Nat.le_of_ble_eq_true rfl⟩ hK hP hD (kPm_left (kPm_app (kPm_keep (kPm_skip (kPm_skip (kPm_keep (kPm_none _))))) (kPm_keepB (kPm_skipB (kPm_skipB (kPm_skipB (kPm_all _))))))).ctx 0 6 rfl rfl rfl rfl hl.1 (Nat.le_of_ble_eq_true rfl) dL_law_385 hf) hP hD hS hA (kPm_left (kPm_app (kPm_keep (kPm_skip (kPm_skip (kPm_keep (kPm_none _))))) (kPm_keepB (kPm_skipB (kPm_skipB (kPm_skipB (kPm_all _))))))).ctx (fun _ => by simp only [List.length_append, kWs_len]; rfl) (fun r1 u1 H1 locs1 hw1 hP1 hD1 hS1 => ?_)
      obtain ⟨gN6, ac6, bo6, gB6⟩ := u1
      obtain ⟨er1, wgN6, wac6, wbo6, wgB6⟩ := hw1
      have wac6 : ac6 = kc (nI d1) := (show ac6 = _ from wac6).trans st_ac
      subst wac6
      have wbo6 : bo6 = kAO aB pi1 := (show bo6 = _ from wbo6).trans (st_bo aB)
      subst wbo6
      have hP1 : va_P G.1 vwCl (cAll G n9 d1 sd h0 t0 t1 b0 s0 i0 e0 e1 e2 e3 aN aT aS0 aS1 pi1 aB L sg ik z tk en mo gN6 gT gS0 gS1 gB6 ++ mAll G Z sd h7 uq tx rp re pg tr bk kp jk sa se sm) H1 := hP1
      have hD1 : va_D A (cAll G n9 d1 sd h0 t0 t1 b0 s0 i0 e0 e1 e2 e3 aN aT aS0 aS1 pi1 aB L sg ik z tk en mo gN6 gT gS0 gS1 gB6 ++ mAll G Z sd h7 uq tx rp re pg tr bk kp jk sa se sm) := hD1
      rw [← show _ = _ from wgN6] at hR1
      rw [← show _ = _ from wgB6] at hR1
      refine lv_aload_n hx hb dL_law_388 rfl (lv_at hl 1 rfl) ?_
      refine lw_arg kx hX hbl hbA hS1 hI hn hl (k := 1) (by decide) rfl g0 dL_law_389 dL_law_390 dL_law_391 dL_law_392 dL_law_393 ?_
      have cz := c_X7_demand_1 l G Z d sd h7 (uq 1) (uq 2) (uq 3) (uq 4) (uq 5) (uq 6) (uq 7) (uq 8) (uq 9) (uq 10) (uq 11) pg bk bd
      rw [kupd_same f2] at cz
      try rw [kupd_same f2] at hR1
      try rw [kupd_same f2] at ea
      refine k_calli (kRunV (As := [.int 1]) (rest := [.int r1]) kx cz q_874 q_871 q_36 q_872 q_873 nX7_demand ⟨Nat.le_of_ble_eq_true rfl, Nat.le_of_ble_eq_true rfl⟩ hK hP1 hD1 (kPm_skipB (kPm_keep (kPm_skip (kPm_skip (kPm_skip (kPm_keep (kPm_skip (kPm_keep (kPm_none _))))))))).ctx 0 7 rfl rfl rfl rfl hl.1 (Nat.le_of_ble_eq_true rfl) dL_law_394 hf) hP1 hD1 hS1 hA (kPm_skipB (kPm_keep (kPm_skip (kPm_skip (kPm_skip (kPm_keep (kPm_skip (kPm_keep (kPm_none _))))))))).ctx (fun _ => rfl) (fun r2 u2 H2 locs2 hw2 hP2 hD2 hS2 => ?_)
      have er2 := hw2
      have hP2 : va_P G.1 vwCl (cAll G n9 d1 sd h0 t0 t1 b0 s0 i0 e0 e1 e2 e3 aN aT aS0 aS1 pi1 aB L sg ik z tk en mo gN6 gT gS0 gS1 gB6 ++ mAll G (upd (upd Z 0 0) 10 (nI (kNoteD d))) sd h7 uq tx rp re (upd pg 23 ((pg 23) ^^^ 1)) tr (kNoteB d bk pg) kp jk sa se sm) H2 := hP2
      have hD2 : va_D A (cAll G n9 d1 sd h0 t0 t1 b0 s0 i0 e0 e1 e2 e3 aN aT aS0 aS1 pi1 aB L sg ik z tk en mo gN6 gT gS0 gS1 gB6 ++ mAll G (upd (upd Z 0 0) 10 (nI (kNoteD d))) sd h7 uq tx rp re (upd pg 23 ((pg 23) ^^^ 1)) tr (kNoteB d bk pg) kp jk sa se sm) := hD2
      refine lv_icmp_eq (tgt := 903) hx hb dL_law_397 (by decide) (fun _ => next _ _ ⟨_, _, _, _, _, _, _, _, _, _, _, _, _, _, _, _, _, _, _, _, _, _, _, _, _, _, _, hR1, hP2, hD2⟩ hS2) (fun c9 => absurd ((show r1 = _ from er1).trans (ea.trans (show r2 = _ from er2).symm)) c9)
    · skip
      obtain ⟨n14, bd, cL, ez, ⟨f1, f2, f3⟩, hw, hB, htx, hk, hv⟩ := id hR
      obtain ⟨ea, d1, pi1, st_ac, st_bo, hR1⟩ := st_demand_x hR p0 c0 c1
      refine lv_aload_n hx hb dL_law_379 rfl (lv_at hl 2 rfl) ?_
      refine lw_arg kx hX hbl hbA hS hI hn hl (k := 1) (by decide) rfl g0 dL_law_380 dL_law_381 dL_law_382 dL_law_383 dL_law_384 ?_
      refine k_calli (kRunV (As := [.int p0]) (rest := []) kx (c_X6_demand l G d sd h0 t0 aN aT b0 s0 i0 e0 n9 pi aB gN gB p0 bd hB.1 n14 hw.2.2.2.2.2.1) q_507 q_504 q_29 q_505 q_506 nX6_demand ⟨Nat.le_of_ble_eq_true rfl, Nat.le_of_ble_eq_true rfl⟩ hK hP hD (kPm_left (kPm_app (kPm_keep (kPm_skip (kPm_skip (kPm_keep (kPm_none _))))) (kPm_keepB (kPm_skipB (kPm_skipB (kPm_skipB (kPm_all _))))))).ctx 0 6 rfl rfl rfl rfl hl.1 (Nat.le_of_ble_eq_true rfl) dL_law_385 hf) hP hD hS hA (kPm_left (kPm_app (kPm_keep (kPm_skip (kPm_skip (kPm_keep (kPm_none _))))) (kPm_keepB (kPm_skipB (kPm_skipB (kPm_skipB (kPm_all _))))))).ctx (fun _ => by simp only [List.length_append, kWs_len]; rfl) (fun r1 u1 H1 locs1 hw1 hP1 hD1 hS1 => ?_)
      obtain ⟨gN6, ac6, bo6, gB6⟩ := u1
      obtain ⟨er1, wgN6, wac6, wbo6, wgB6⟩ := hw1
      have wac6 : ac6 = kc (nI d1) := (show ac6 = _ from wac6).trans st_ac
      subst wac6
      have wbo6 : bo6 = kAO aB pi1 := (show bo6 = _ from wbo6).trans (st_bo aB)
      subst wbo6
      have hP1 : va_P G.1 vwCl (cAll G n9 d1 sd h0 t0 t1 b0 s0 i0 e0 e1 e2 e3 aN aT aS0 aS1 pi1 aB L sg ik z tk en mo gN6 gT gS0 gS1 gB6 ++ mAll G Z sd h7 uq tx rp re pg tr bk kp jk sa se sm) H1 := hP1
      have hD1 : va_D A (cAll G n9 d1 sd h0 t0 t1 b0 s0 i0 e0 e1 e2 e3 aN aT aS0 aS1 pi1 aB L sg ik z tk en mo gN6 gT gS0 gS1 gB6 ++ mAll G Z sd h7 uq tx rp re pg tr bk kp jk sa se sm) := hD1
      rw [← show _ = _ from wgN6] at hR1
      rw [← show _ = _ from wgB6] at hR1
      refine lv_aload_n hx hb dL_law_388 rfl (lv_at hl 1 rfl) ?_
      refine lw_arg kx hX hbl hbA hS1 hI hn hl (k := 1) (by decide) rfl g0 dL_law_389 dL_law_390 dL_law_391 dL_law_392 dL_law_393 ?_
      have cz := c_X7_demand_x l G Z sd h7 (uq 1) (uq 2) (uq 3) (uq 4) (uq 5) (uq 6) (uq 7) (uq 8) (uq 9) (uq 10) (uq 11) p0 c0 c1
      refine k_calli (kRunV (As := [.int p0]) (rest := [.int r1]) kx cz q_874 q_871 q_36 q_872 q_873 nX7_demand ⟨Nat.le_of_ble_eq_true rfl, Nat.le_of_ble_eq_true rfl⟩ hK hP1 hD1 (kPm_skipB (kPm_keep (kPm_none _))).ctx 0 7 rfl rfl rfl rfl hl.1 (Nat.le_of_ble_eq_true rfl) dL_law_394 hf) hP1 hD1 hS1 hA (kPm_skipB (kPm_keep (kPm_none _))).ctx (fun _ => rfl) (fun r2 u2 H2 locs2 hw2 hP2 hD2 hS2 => ?_)
      have er2 := hw2
      have hP2 : va_P G.1 vwCl (cAll G n9 d1 sd h0 t0 t1 b0 s0 i0 e0 e1 e2 e3 aN aT aS0 aS1 pi1 aB L sg ik z tk en mo gN6 gT gS0 gS1 gB6 ++ mAll G (upd Z 0 0) sd h7 uq tx rp re pg tr bk kp jk sa se sm) H2 := hP2
      have hD2 : va_D A (cAll G n9 d1 sd h0 t0 t1 b0 s0 i0 e0 e1 e2 e3 aN aT aS0 aS1 pi1 aB L sg ik z tk en mo gN6 gT gS0 gS1 gB6 ++ mAll G (upd Z 0 0) sd h7 uq tx rp re pg tr bk kp jk sa se sm) := hD2
      refine lv_icmp_eq (tgt := 903) hx hb dL_law_397 (by decide) (fun _ => next _ _ ⟨_, _, _, _, _, _, _, _, _, _, _, _, _, _, _, _, _, _, _, _, _, _, _, _, _, _, _, hR1, hP2, hD2⟩ hS2) (fun c9 => absurd ((show r1 = _ from er1).trans (ea.trans (show r2 = _ from er2).symm)) c9)
set_option maxHeartbeats 4000000 in
set_option maxRecDepth 100000 in
theorem lw_turn (kx : kX p s m args meth c cL_law 4 rr RL) (hK : kK G s) (hX : va_X b n0 xs s s.heap) (hbl : b < s.heap.size) (hbA : ¬ A b) (hA : ∀ q, s.heap.size ≤ q → A q) (hf : cells ≤ room_1.cells ∧ slots ≤ room_1.slots) (hS : va_S A s.heap H locs) (hI : I + 4 ≤ n0) (hn : n0 ≤ 2048) (hl : lv_has ls 4 [(3, .int (nI I)), (2, .ref h7), (1, .ref h0), (0, .ref b)]) (hs : lwS G n9 A h0 t0 t1 b0 s0 i0 e0 e1 e2 e3 aN aT aS0 aS1 aB h7 uq H) (next : ∀ (H1 : Heap) (locs1 : List Loc), lwS G n9 A h0 t0 t1 b0 s0 i0 e0 e1 e2 e3 aN aT aS0 aS1 aB h7 uq H1 → va_S A s.heap H1 locs1 → W p l e room_1 s m args below meth c H1 locs1 cells slots Qq (F0 m 903 ls [])) : W p l e room_1 s m args below meth c H locs cells slots Qq (F0 m 402 ls []) := by
  have hx := kx.1
  have hb := kx.2.1
  obtain ⟨d, sd, pi, L, sg, ik, z, tk, en, mo, gN, gT, gS0, gS1, gB, Z, tx, rp, re, pg, tr, bk, kp, jk, sa, se, sm, hR, hP, hD⟩ := hs
  obtain ⟨p0, g0⟩ : ∃ v, xs (I + 1) = v := ⟨_, rfl⟩
  by_cases c0 : p0 = 0
  · subst c0
    obtain ⟨n14, bd, cL, ez, ⟨f1, f2, f3⟩, hw, hB, htx, hk, hv⟩ := id hR
    obtain ⟨ea, d1, pi1, st_ac, st_bo, hR1⟩ := st_turn_0 hR
    refine lv_aload_n hx hb dL_law_402 rfl (lv_at hl 2 rfl) ?_
    refine lw_arg kx hX hbl hbA hS hI hn hl (k := 1) (by decide) rfl g0 dL_law_403 dL_law_404 dL_law_405 dL_law_406 dL_law_407 ?_
    refine k_calli (kRunV (As := [.int 0]) (rest := []) kx (c_X6_turn l G d sd h0 t0 aN aT b0 s0 i0 e0 n9 pi aB gN gB 0 bd hB.1 n14 hw.2.2.2.2.2.1) q_512 q_509 q_29 q_510 q_511 nX6_turn ⟨Nat.le_of_ble_eq_true rfl, Nat.le_of_ble_eq_true rfl⟩ hK hP hD (kPm_left (kPm_app (kPm_keep (kPm_skip (kPm_skip (kPm_keep (kPm_none _))))) (kPm_keepB (kPm_skipB (kPm_skipB (kPm_skipB (kPm_all _))))))).ctx 0 6 rfl rfl rfl rfl hl.1 (Nat.le_of_ble_eq_true rfl) dL_law_408 hf) hP hD hS hA (kPm_left (kPm_app (kPm_keep (kPm_skip (kPm_skip (kPm_keep (kPm_none _))))) (kPm_keepB (kPm_skipB (kPm_skipB (kPm_skipB (kPm_all _))))))).ctx (fun _ => by simp only [List.length_append, kWs_len]; rfl) (fun r1 u1 H1 locs1 hw1 hP1 hD1 hS1 => ?_)
    obtain ⟨gN6, ac6, bo6, gB6⟩ := u1
    obtain ⟨er1, wgN6, wac6, wbo6, wgB6⟩ := hw1
    have wac6 : ac6 = kc (nI d1) := (show ac6 = _ from wac6).trans st_ac
    subst wac6
    have wbo6 : bo6 = kAO aB pi1 := (show bo6 = _ from wbo6).trans (st_bo aB)
    subst wbo6
    have hP1 : va_P G.1 vwCl (cAll G n9 d1 sd h0 t0 t1 b0 s0 i0 e0 e1 e2 e3 aN aT aS0 aS1 pi1 aB L sg ik z tk en mo gN6 gT gS0 gS1 gB6 ++ mAll G Z sd h7 uq tx rp re pg tr bk kp jk sa se sm) H1 := hP1
    have hD1 : va_D A (cAll G n9 d1 sd h0 t0 t1 b0 s0 i0 e0 e1 e2 e3 aN aT aS0 aS1 pi1 aB L sg ik z tk en mo gN6 gT gS0 gS1 gB6 ++ mAll G Z sd h7 uq tx rp re pg tr bk kp jk sa se sm) := hD1
    rw [← show _ = _ from wgN6] at hR1
    rw [← show _ = _ from wgB6] at hR1
    refine lv_aload_n hx hb dL_law_411 rfl (lv_at hl 1 rfl) ?_
    refine lw_arg kx hX hbl hbA hS1 hI hn hl (k := 1) (by decide) rfl g0 dL_law_412 dL_law_413 dL_law_414 dL_law_415 dL_law_416 ?_
    have cz := c_X7_turn_0 l G Z d sd h7 (uq 1) (uq 2) (uq 3) (uq 4) (uq 5) (uq 6) (uq 7) (uq 8) (uq 9) (uq 10) (uq 11) pg bk bd
    rw [kupd_same f2] at cz
    try rw [kupd_same f2] at hR1
    try rw [kupd_same f2] at ea
    refine k_calli (kRunV (As := [.int 0]) (rest := [.int r1]) kx cz q_878 q_875 q_36 q_876 q_877 nX7_turn ⟨Nat.le_of_ble_eq_true rfl, Nat.le_of_ble_eq_true rfl⟩ hK hP1 hD1 (kPm_skipB (kPm_keep (kPm_skip (kPm_skip (kPm_skip (kPm_keep (kPm_skip (kPm_keep (kPm_none _))))))))).ctx 0 7 rfl rfl rfl rfl hl.1 (Nat.le_of_ble_eq_true rfl) dL_law_417 hf) hP1 hD1 hS1 hA (kPm_skipB (kPm_keep (kPm_skip (kPm_skip (kPm_skip (kPm_keep (kPm_skip (kPm_keep (kPm_none _))))))))).ctx (fun _ => rfl) (fun r2 u2 H2 locs2 hw2 hP2 hD2 hS2 => ?_)
    have er2 := hw2
    have hP2 : va_P G.1 vwCl (cAll G n9 d1 sd h0 t0 t1 b0 s0 i0 e0 e1 e2 e3 aN aT aS0 aS1 pi1 aB L sg ik z tk en mo gN6 gT gS0 gS1 gB6 ++ mAll G (upd (upd Z 0 0) 10 (nI (kNoteD d))) sd h7 uq tx rp re (upd pg 32 ((pg 32) ^^^ 1)) tr (kNoteB d bk pg) kp jk sa se sm) H2 := hP2
    have hD2 : va_D A (cAll G n9 d1 sd h0 t0 t1 b0 s0 i0 e0 e1 e2 e3 aN aT aS0 aS1 pi1 aB L sg ik z tk en mo gN6 gT gS0 gS1 gB6 ++ mAll G (upd (upd Z 0 0) 10 (nI (kNoteD d))) sd h7 uq tx rp re (upd pg 32 ((pg 32) ^^^ 1)) tr (kNoteB d bk pg) kp jk sa se sm) := hD2
    refine lv_icmp_eq (tgt := 903) hx hb dL_law_420 (by decide) (fun _ => next _ _ ⟨_, _, _, _, _, _, _, _, _, _, _, _, _, _, _, _, _, _, _, _, _, _, _, _, _, _, _, hR1, hP2, hD2⟩ hS2) (fun c9 => absurd ((show r1 = _ from er1).trans (ea.trans (show r2 = _ from er2).symm)) c9)
  · by_cases c1 : p0 = 1
    · subst c1
      obtain ⟨n14, bd, cL, ez, ⟨f1, f2, f3⟩, hw, hB, htx, hk, hv⟩ := id hR
      obtain ⟨ea, d1, pi1, st_ac, st_bo, hR1⟩ := st_turn_1 hR
      refine lv_aload_n hx hb dL_law_402 rfl (lv_at hl 2 rfl) ?_
      refine lw_arg kx hX hbl hbA hS hI hn hl (k := 1) (by decide) rfl g0 dL_law_403 dL_law_404 dL_law_405 dL_law_406 dL_law_407 ?_
      refine k_calli (kRunV (As := [.int 1]) (rest := []) kx (c_X6_turn l G d sd h0 t0 aN aT b0 s0 i0 e0 n9 pi aB gN gB 1 bd hB.1 n14 hw.2.2.2.2.2.1) q_512 q_509 q_29 q_510 q_511 nX6_turn ⟨Nat.le_of_ble_eq_true rfl, Nat.le_of_ble_eq_true rfl⟩ hK hP hD (kPm_left (kPm_app (kPm_keep (kPm_skip (kPm_skip (kPm_keep (kPm_none _))))) (kPm_keepB (kPm_skipB (kPm_skipB (kPm_skipB (kPm_all _))))))).ctx 0 6 rfl rfl rfl rfl hl.1 (Nat.le_of_ble_eq_true rfl) dL_law_408 hf) hP hD hS hA (kPm_left (kPm_app (kPm_keep (kPm_skip (kPm_skip (kPm_keep (kPm_none _))))) (kPm_keepB (kPm_skipB (kPm_skipB (kPm_skipB (kPm_all _))))))).ctx (fun _ => by simp only [List.length_append, kWs_len]; rfl) (fun r1 u1 H1 locs1 hw1 hP1 hD1 hS1 => ?_)
      obtain ⟨gN6, ac6, bo6, gB6⟩ := u1
      obtain ⟨er1, wgN6, wac6, wbo6, wgB6⟩ := hw1
      have wac6 : ac6 = kc (nI d1) := (show ac6 = _ from wac6).trans st_ac
      subst wac6
      have wbo6 : bo6 = kAO aB pi1 := (show bo6 = _ from wbo6).trans (st_bo aB)
      subst wbo6
      have hP1 : va_P G.1 vwCl (cAll G n9 d1 sd h0 t0 t1 b0 s0 i0 e0 e1 e2 e3 aN aT aS0 aS1 pi1 aB L sg ik z tk en mo gN6 gT gS0 gS1 gB6 ++ mAll G Z sd h7 uq tx rp re pg tr bk kp jk sa se sm) H1 := hP1
      have hD1 : va_D A (cAll G n9 d1 sd h0 t0 t1 b0 s0 i0 e0 e1 e2 e3 aN aT aS0 aS1 pi1 aB L sg ik z tk en mo gN6 gT gS0 gS1 gB6 ++ mAll G Z sd h7 uq tx rp re pg tr bk kp jk sa se sm) := hD1
      rw [← show _ = _ from wgN6] at hR1
      rw [← show _ = _ from wgB6] at hR1
      refine lv_aload_n hx hb dL_law_411 rfl (lv_at hl 1 rfl) ?_
      refine lw_arg kx hX hbl hbA hS1 hI hn hl (k := 1) (by decide) rfl g0 dL_law_412 dL_law_413 dL_law_414 dL_law_415 dL_law_416 ?_
      have cz := c_X7_turn_1 l G Z d sd h7 (uq 1) (uq 2) (uq 3) (uq 4) (uq 5) (uq 6) (uq 7) (uq 8) (uq 9) (uq 10) (uq 11) pg bk bd
      rw [kupd_same f2] at cz
      try rw [kupd_same f2] at hR1
      try rw [kupd_same f2] at ea
      refine k_calli (kRunV (As := [.int 1]) (rest := [.int r1]) kx cz q_878 q_875 q_36 q_876 q_877 nX7_turn ⟨Nat.le_of_ble_eq_true rfl, Nat.le_of_ble_eq_true rfl⟩ hK hP1 hD1 (kPm_skipB (kPm_keep (kPm_skip (kPm_skip (kPm_skip (kPm_keep (kPm_skip (kPm_keep (kPm_none _))))))))).ctx 0 7 rfl rfl rfl rfl hl.1 (Nat.le_of_ble_eq_true rfl) dL_law_417 hf) hP1 hD1 hS1 hA (kPm_skipB (kPm_keep (kPm_skip (kPm_skip (kPm_skip (kPm_keep (kPm_skip (kPm_keep (kPm_none _))))))))).ctx (fun _ => rfl) (fun r2 u2 H2 locs2 hw2 hP2 hD2 hS2 => ?_)
      have er2 := hw2
      have hP2 : va_P G.1 vwCl (cAll G n9 d1 sd h0 t0 t1 b0 s0 i0 e0 e1 e2 e3 aN aT aS0 aS1 pi1 aB L sg ik z tk en mo gN6 gT gS0 gS1 gB6 ++ mAll G (upd (upd Z 0 0) 10 (nI (kNoteD d))) sd h7 uq tx rp re (upd pg 33 ((pg 33) ^^^ 1)) tr (kNoteB d bk pg) kp jk sa se sm) H2 := hP2
      have hD2 : va_D A (cAll G n9 d1 sd h0 t0 t1 b0 s0 i0 e0 e1 e2 e3 aN aT aS0 aS1 pi1 aB L sg ik z tk en mo gN6 gT gS0 gS1 gB6 ++ mAll G (upd (upd Z 0 0) 10 (nI (kNoteD d))) sd h7 uq tx rp re (upd pg 33 ((pg 33) ^^^ 1)) tr (kNoteB d bk pg) kp jk sa se sm) := hD2
      refine lv_icmp_eq (tgt := 903) hx hb dL_law_420 (by decide) (fun _ => next _ _ ⟨_, _, _, _, _, _, _, _, _, _, _, _, _, _, _, _, _, _, _, _, _, _, _, _, _, _, _, hR1, hP2, hD2⟩ hS2) (fun c9 => absurd ((show r1 = _ from er1).trans (ea.trans (show r2 = _ from er2).symm)) c9)
    · skip
      obtain ⟨n14, bd, cL, ez, ⟨f1, f2, f3⟩, hw, hB, htx, hk, hv⟩ := id hR
      obtain ⟨ea, d1, pi1, st_ac, st_bo, hR1⟩ := st_turn_x hR p0 c0 c1
      refine lv_aload_n hx hb dL_law_402 rfl (lv_at hl 2 rfl) ?_
      refine lw_arg kx hX hbl hbA hS hI hn hl (k := 1) (by decide) rfl g0 dL_law_403 dL_law_404 dL_law_405 dL_law_406 dL_law_407 ?_
      refine k_calli (kRunV (As := [.int p0]) (rest := []) kx (c_X6_turn l G d sd h0 t0 aN aT b0 s0 i0 e0 n9 pi aB gN gB p0 bd hB.1 n14 hw.2.2.2.2.2.1) q_512 q_509 q_29 q_510 q_511 nX6_turn ⟨Nat.le_of_ble_eq_true rfl, Nat.le_of_ble_eq_true rfl⟩ hK hP hD (kPm_left (kPm_app (kPm_keep (kPm_skip (kPm_skip (kPm_keep (kPm_none _))))) (kPm_keepB (kPm_skipB (kPm_skipB (kPm_skipB (kPm_all _))))))).ctx 0 6 rfl rfl rfl rfl hl.1 (Nat.le_of_ble_eq_true rfl) dL_law_408 hf) hP hD hS hA (kPm_left (kPm_app (kPm_keep (kPm_skip (kPm_skip (kPm_keep (kPm_none _))))) (kPm_keepB (kPm_skipB (kPm_skipB (kPm_skipB (kPm_all _))))))).ctx (fun _ => by simp only [List.length_append, kWs_len]; rfl) (fun r1 u1 H1 locs1 hw1 hP1 hD1 hS1 => ?_)
      obtain ⟨gN6, ac6, bo6, gB6⟩ := u1
      obtain ⟨er1, wgN6, wac6, wbo6, wgB6⟩ := hw1
      have wac6 : ac6 = kc (nI d1) := (show ac6 = _ from wac6).trans st_ac
      subst wac6
      have wbo6 : bo6 = kAO aB pi1 := (show bo6 = _ from wbo6).trans (st_bo aB)
      subst wbo6
      have hP1 : va_P G.1 vwCl (cAll G n9 d1 sd h0 t0 t1 b0 s0 i0 e0 e1 e2 e3 aN aT aS0 aS1 pi1 aB L sg ik z tk en mo gN6 gT gS0 gS1 gB6 ++ mAll G Z sd h7 uq tx rp re pg tr bk kp jk sa se sm) H1 := hP1
      have hD1 : va_D A (cAll G n9 d1 sd h0 t0 t1 b0 s0 i0 e0 e1 e2 e3 aN aT aS0 aS1 pi1 aB L sg ik z tk en mo gN6 gT gS0 gS1 gB6 ++ mAll G Z sd h7 uq tx rp re pg tr bk kp jk sa se sm) := hD1
      rw [← show _ = _ from wgN6] at hR1
      rw [← show _ = _ from wgB6] at hR1
      refine lv_aload_n hx hb dL_law_411 rfl (lv_at hl 1 rfl) ?_
      refine lw_arg kx hX hbl hbA hS1 hI hn hl (k := 1) (by decide) rfl g0 dL_law_412 dL_law_413 dL_law_414 dL_law_415 dL_law_416 ?_
      have cz := c_X7_turn_x l G Z sd h7 (uq 1) (uq 2) (uq 3) (uq 4) (uq 5) (uq 6) (uq 7) (uq 8) (uq 9) (uq 10) (uq 11) p0 c0 c1
      refine k_calli (kRunV (As := [.int p0]) (rest := [.int r1]) kx cz q_878 q_875 q_36 q_876 q_877 nX7_turn ⟨Nat.le_of_ble_eq_true rfl, Nat.le_of_ble_eq_true rfl⟩ hK hP1 hD1 (kPm_skipB (kPm_keep (kPm_none _))).ctx 0 7 rfl rfl rfl rfl hl.1 (Nat.le_of_ble_eq_true rfl) dL_law_417 hf) hP1 hD1 hS1 hA (kPm_skipB (kPm_keep (kPm_none _))).ctx (fun _ => rfl) (fun r2 u2 H2 locs2 hw2 hP2 hD2 hS2 => ?_)
      have er2 := hw2
      have hP2 : va_P G.1 vwCl (cAll G n9 d1 sd h0 t0 t1 b0 s0 i0 e0 e1 e2 e3 aN aT aS0 aS1 pi1 aB L sg ik z tk en mo gN6 gT gS0 gS1 gB6 ++ mAll G (upd Z 0 0) sd h7 uq tx rp re pg tr bk kp jk sa se sm) H2 := hP2
      have hD2 : va_D A (cAll G n9 d1 sd h0 t0 t1 b0 s0 i0 e0 e1 e2 e3 aN aT aS0 aS1 pi1 aB L sg ik z tk en mo gN6 gT gS0 gS1 gB6 ++ mAll G (upd Z 0 0) sd h7 uq tx rp re pg tr bk kp jk sa se sm) := hD2
      refine lv_icmp_eq (tgt := 903) hx hb dL_law_420 (by decide) (fun _ => next _ _ ⟨_, _, _, _, _, _, _, _, _, _, _, _, _, _, _, _, _, _, _, _, _, _, _, _, _, _, _, hR1, hP2, hD2⟩ hS2) (fun c9 => absurd ((show r1 = _ from er1).trans (ea.trans (show r2 = _ from er2).symm)) c9)
set_option maxHeartbeats 4000000 in
set_option maxRecDepth 100000 in
theorem lw_poll (kx : kX p s m args meth c cL_law 4 rr RL) (hK : kK G s) (hX : va_X b n0 xs s s.heap) (hbl : b < s.heap.size) (hbA : ¬ A b) (hA : ∀ q, s.heap.size ≤ q → A q) (hf : cells ≤ room_1.cells ∧ slots ≤ room_1.slots) (hS : va_S A s.heap H locs) (hI : I + 4 ≤ n0) (hn : n0 ≤ 2048) (hl : lv_has ls 4 [(3, .int (nI I)), (2, .ref h7), (1, .ref h0), (0, .ref b)]) (hs : lwS G n9 A h0 t0 t1 b0 s0 i0 e0 e1 e2 e3 aN aT aS0 aS1 aB h7 uq H) (next : ∀ (H1 : Heap) (locs1 : List Loc), lwS G n9 A h0 t0 t1 b0 s0 i0 e0 e1 e2 e3 aN aT aS0 aS1 aB h7 uq H1 → va_S A s.heap H1 locs1 → W p l e room_1 s m args below meth c H1 locs1 cells slots Qq (F0 m 903 ls [])) : W p l e room_1 s m args below meth c H locs cells slots Qq (F0 m 425 ls []) := by
  have hx := kx.1
  have hb := kx.2.1
  obtain ⟨d, sd, pi, L, sg, ik, z, tk, en, mo, gN, gT, gS0, gS1, gB, Z, tx, rp, re, pg, tr, bk, kp, jk, sa, se, sm, hR, hP, hD⟩ := hs
  obtain ⟨p0, g0⟩ : ∃ v, xs (I + 1) = v := ⟨_, rfl⟩
  by_cases c0 : p0 = 0
  · subst c0
    obtain ⟨n14, bd, cL, ez, ⟨f1, f2, f3⟩, hw, hB, htx, hk, hv⟩ := id hR
    obtain ⟨ea, d1, pi1, st_ac, st_bo, hR1⟩ := st_poll_0 hR
    refine lv_aload_n hx hb dL_law_425 rfl (lv_at hl 2 rfl) ?_
    refine lw_arg kx hX hbl hbA hS hI hn hl (k := 1) (by decide) rfl g0 dL_law_426 dL_law_427 dL_law_428 dL_law_429 dL_law_430 ?_
    refine k_calli (kRunV (As := [.int 0]) (rest := []) kx (c_X6_poll l G d sd h0 t0 aN aT b0 s0 i0 e0 n9 pi aB gN gB 0 bd hB.1 n14 hw.2.2.2.2.2.1) q_517 q_514 q_29 q_515 q_516 nX6_poll ⟨Nat.le_of_ble_eq_true rfl, Nat.le_of_ble_eq_true rfl⟩ hK hP hD (kPm_left (kPm_app (kPm_keep (kPm_skip (kPm_skip (kPm_keep (kPm_none _))))) (kPm_keepB (kPm_skipB (kPm_skipB (kPm_skipB (kPm_all _))))))).ctx 0 6 rfl rfl rfl rfl hl.1 (Nat.le_of_ble_eq_true rfl) dL_law_431 hf) hP hD hS hA (kPm_left (kPm_app (kPm_keep (kPm_skip (kPm_skip (kPm_keep (kPm_none _))))) (kPm_keepB (kPm_skipB (kPm_skipB (kPm_skipB (kPm_all _))))))).ctx (fun _ => by simp only [List.length_append, kWs_len]; rfl) (fun r1 u1 H1 locs1 hw1 hP1 hD1 hS1 => ?_)
    obtain ⟨gN6, ac6, bo6, gB6⟩ := u1
    obtain ⟨er1, wgN6, wac6, wbo6, wgB6⟩ := hw1
    have wac6 : ac6 = kc (nI d1) := (show ac6 = _ from wac6).trans st_ac
    subst wac6
    have wbo6 : bo6 = kAO aB pi1 := (show bo6 = _ from wbo6).trans (st_bo aB)
    subst wbo6
    have hP1 : va_P G.1 vwCl (cAll G n9 d1 sd h0 t0 t1 b0 s0 i0 e0 e1 e2 e3 aN aT aS0 aS1 pi1 aB L sg ik z tk en mo gN6 gT gS0 gS1 gB6 ++ mAll G Z sd h7 uq tx rp re pg tr bk kp jk sa se sm) H1 := hP1
    have hD1 : va_D A (cAll G n9 d1 sd h0 t0 t1 b0 s0 i0 e0 e1 e2 e3 aN aT aS0 aS1 pi1 aB L sg ik z tk en mo gN6 gT gS0 gS1 gB6 ++ mAll G Z sd h7 uq tx rp re pg tr bk kp jk sa se sm) := hD1
    rw [← show _ = _ from wgN6] at hR1
    rw [← show _ = _ from wgB6] at hR1
    refine lv_aload_n hx hb dL_law_434 rfl (lv_at hl 1 rfl) ?_
    refine lw_arg kx hX hbl hbA hS1 hI hn hl (k := 1) (by decide) rfl g0 dL_law_435 dL_law_436 dL_law_437 dL_law_438 dL_law_439 ?_
    have cz := c_X7_poll_0 l G Z d sd h7 (uq 1) (uq 2) (uq 3) (uq 4) (uq 5) (uq 6) (uq 7) (uq 8) (uq 9) (uq 10) (uq 11) pg bk bd
    rw [kupd_same f2] at cz
    try rw [kupd_same f2] at hR1
    try rw [kupd_same f2] at ea
    refine k_calli (kRunV (As := [.int 0]) (rest := [.int r1]) kx cz q_882 q_879 q_36 q_880 q_881 nX7_poll ⟨Nat.le_of_ble_eq_true rfl, Nat.le_of_ble_eq_true rfl⟩ hK hP1 hD1 (kPm_skipB (kPm_keep (kPm_skip (kPm_skip (kPm_skip (kPm_keep (kPm_skip (kPm_keep (kPm_none _))))))))).ctx 0 7 rfl rfl rfl rfl hl.1 (Nat.le_of_ble_eq_true rfl) dL_law_440 hf) hP1 hD1 hS1 hA (kPm_skipB (kPm_keep (kPm_skip (kPm_skip (kPm_skip (kPm_keep (kPm_skip (kPm_keep (kPm_none _))))))))).ctx (fun _ => rfl) (fun r2 u2 H2 locs2 hw2 hP2 hD2 hS2 => ?_)
    obtain ⟨Z7, pg7, bk7⟩ := u2
    obtain ⟨er2, wZ7, wpg7, wbk7⟩ := hw2
    rw [← show _ = _ from wZ7] at hR1
    rw [← show _ = _ from wpg7] at hR1
    rw [← show _ = _ from wbk7] at hR1
    have hP2 : va_P G.1 vwCl (cAll G n9 d1 sd h0 t0 t1 b0 s0 i0 e0 e1 e2 e3 aN aT aS0 aS1 pi1 aB L sg ik z tk en mo gN6 gT gS0 gS1 gB6 ++ mAll G Z7 sd h7 uq tx rp re pg7 tr bk7 kp jk sa se sm) H2 := hP2
    have hD2 : va_D A (cAll G n9 d1 sd h0 t0 t1 b0 s0 i0 e0 e1 e2 e3 aN aT aS0 aS1 pi1 aB L sg ik z tk en mo gN6 gT gS0 gS1 gB6 ++ mAll G Z7 sd h7 uq tx rp re pg7 tr bk7 kp jk sa se sm) := hD2
    refine lv_icmp_eq (tgt := 903) hx hb dL_law_443 (by decide) (fun _ => next _ _ ⟨_, _, _, _, _, _, _, _, _, _, _, _, _, _, _, _, _, _, _, _, _, _, _, _, _, _, _, hR1, hP2, hD2⟩ hS2) (fun c9 => absurd ((show r1 = _ from er1).trans (ea.trans (show r2 = _ from er2).symm)) c9)
  · by_cases c1 : p0 = 1
    · subst c1
      obtain ⟨n14, bd, cL, ez, ⟨f1, f2, f3⟩, hw, hB, htx, hk, hv⟩ := id hR
      obtain ⟨ea, d1, pi1, st_ac, st_bo, hR1⟩ := st_poll_1 hR
      refine lv_aload_n hx hb dL_law_425 rfl (lv_at hl 2 rfl) ?_
      refine lw_arg kx hX hbl hbA hS hI hn hl (k := 1) (by decide) rfl g0 dL_law_426 dL_law_427 dL_law_428 dL_law_429 dL_law_430 ?_
      refine k_calli (kRunV (As := [.int 1]) (rest := []) kx (c_X6_poll l G d sd h0 t0 aN aT b0 s0 i0 e0 n9 pi aB gN gB 1 bd hB.1 n14 hw.2.2.2.2.2.1) q_517 q_514 q_29 q_515 q_516 nX6_poll ⟨Nat.le_of_ble_eq_true rfl, Nat.le_of_ble_eq_true rfl⟩ hK hP hD (kPm_left (kPm_app (kPm_keep (kPm_skip (kPm_skip (kPm_keep (kPm_none _))))) (kPm_keepB (kPm_skipB (kPm_skipB (kPm_skipB (kPm_all _))))))).ctx 0 6 rfl rfl rfl rfl hl.1 (Nat.le_of_ble_eq_true rfl) dL_law_431 hf) hP hD hS hA (kPm_left (kPm_app (kPm_keep (kPm_skip (kPm_skip (kPm_keep (kPm_none _))))) (kPm_keepB (kPm_skipB (kPm_skipB (kPm_skipB (kPm_all _))))))).ctx (fun _ => by simp only [List.length_append, kWs_len]; rfl) (fun r1 u1 H1 locs1 hw1 hP1 hD1 hS1 => ?_)
      obtain ⟨gN6, ac6, bo6, gB6⟩ := u1
      obtain ⟨er1, wgN6, wac6, wbo6, wgB6⟩ := hw1
      have wac6 : ac6 = kc (nI d1) := (show ac6 = _ from wac6).trans st_ac
      subst wac6
      have wbo6 : bo6 = kAO aB pi1 := (show bo6 = _ from wbo6).trans (st_bo aB)
      subst wbo6
      have hP1 : va_P G.1 vwCl (cAll G n9 d1 sd h0 t0 t1 b0 s0 i0 e0 e1 e2 e3 aN aT aS0 aS1 pi1 aB L sg ik z tk en mo gN6 gT gS0 gS1 gB6 ++ mAll G Z sd h7 uq tx rp re pg tr bk kp jk sa se sm) H1 := hP1
      have hD1 : va_D A (cAll G n9 d1 sd h0 t0 t1 b0 s0 i0 e0 e1 e2 e3 aN aT aS0 aS1 pi1 aB L sg ik z tk en mo gN6 gT gS0 gS1 gB6 ++ mAll G Z sd h7 uq tx rp re pg tr bk kp jk sa se sm) := hD1
      rw [← show _ = _ from wgN6] at hR1
      rw [← show _ = _ from wgB6] at hR1
      refine lv_aload_n hx hb dL_law_434 rfl (lv_at hl 1 rfl) ?_
      refine lw_arg kx hX hbl hbA hS1 hI hn hl (k := 1) (by decide) rfl g0 dL_law_435 dL_law_436 dL_law_437 dL_law_438 dL_law_439 ?_
      have cz := c_X7_poll_1 l G Z d sd h7 (uq 1) (uq 2) (uq 3) (uq 4) (uq 5) (uq 6) (uq 7) (uq 8) (uq 9) (uq 10) (uq 11) pg bk bd
      rw [kupd_same f2] at cz
      try rw [kupd_same f2] at hR1
      try rw [kupd_same f2] at ea
      refine k_calli (kRunV (As := [.int 1]) (rest := [.int r1]) kx cz q_882 q_879 q_36 q_880 q_881 nX7_poll ⟨Nat.le_of_ble_eq_true rfl, Nat.le_of_ble_eq_true rfl⟩ hK hP1 hD1 (kPm_skipB (kPm_keep (kPm_skip (kPm_skip (kPm_skip (kPm_keep (kPm_skip (kPm_keep (kPm_none _))))))))).ctx 0 7 rfl rfl rfl rfl hl.1 (Nat.le_of_ble_eq_true rfl) dL_law_440 hf) hP1 hD1 hS1 hA (kPm_skipB (kPm_keep (kPm_skip (kPm_skip (kPm_skip (kPm_keep (kPm_skip (kPm_keep (kPm_none _))))))))).ctx (fun _ => rfl) (fun r2 u2 H2 locs2 hw2 hP2 hD2 hS2 => ?_)
      obtain ⟨Z7, pg7, bk7⟩ := u2
      obtain ⟨er2, wZ7, wpg7, wbk7⟩ := hw2
      rw [← show _ = _ from wZ7] at hR1
      rw [← show _ = _ from wpg7] at hR1
      rw [← show _ = _ from wbk7] at hR1
      have hP2 : va_P G.1 vwCl (cAll G n9 d1 sd h0 t0 t1 b0 s0 i0 e0 e1 e2 e3 aN aT aS0 aS1 pi1 aB L sg ik z tk en mo gN6 gT gS0 gS1 gB6 ++ mAll G Z7 sd h7 uq tx rp re pg7 tr bk7 kp jk sa se sm) H2 := hP2
      have hD2 : va_D A (cAll G n9 d1 sd h0 t0 t1 b0 s0 i0 e0 e1 e2 e3 aN aT aS0 aS1 pi1 aB L sg ik z tk en mo gN6 gT gS0 gS1 gB6 ++ mAll G Z7 sd h7 uq tx rp re pg7 tr bk7 kp jk sa se sm) := hD2
      refine lv_icmp_eq (tgt := 903) hx hb dL_law_443 (by decide) (fun _ => next _ _ ⟨_, _, _, _, _, _, _, _, _, _, _, _, _, _, _, _, _, _, _, _, _, _, _, _, _, _, _, hR1, hP2, hD2⟩ hS2) (fun c9 => absurd ((show r1 = _ from er1).trans (ea.trans (show r2 = _ from er2).symm)) c9)
    · skip
      obtain ⟨n14, bd, cL, ez, ⟨f1, f2, f3⟩, hw, hB, htx, hk, hv⟩ := id hR
      obtain ⟨ea, d1, pi1, st_ac, st_bo, hR1⟩ := st_poll_x hR p0 c0 c1
      refine lv_aload_n hx hb dL_law_425 rfl (lv_at hl 2 rfl) ?_
      refine lw_arg kx hX hbl hbA hS hI hn hl (k := 1) (by decide) rfl g0 dL_law_426 dL_law_427 dL_law_428 dL_law_429 dL_law_430 ?_
      refine k_calli (kRunV (As := [.int p0]) (rest := []) kx (c_X6_poll l G d sd h0 t0 aN aT b0 s0 i0 e0 n9 pi aB gN gB p0 bd hB.1 n14 hw.2.2.2.2.2.1) q_517 q_514 q_29 q_515 q_516 nX6_poll ⟨Nat.le_of_ble_eq_true rfl, Nat.le_of_ble_eq_true rfl⟩ hK hP hD (kPm_left (kPm_app (kPm_keep (kPm_skip (kPm_skip (kPm_keep (kPm_none _))))) (kPm_keepB (kPm_skipB (kPm_skipB (kPm_skipB (kPm_all _))))))).ctx 0 6 rfl rfl rfl rfl hl.1 (Nat.le_of_ble_eq_true rfl) dL_law_431 hf) hP hD hS hA (kPm_left (kPm_app (kPm_keep (kPm_skip (kPm_skip (kPm_keep (kPm_none _))))) (kPm_keepB (kPm_skipB (kPm_skipB (kPm_skipB (kPm_all _))))))).ctx (fun _ => by simp only [List.length_append, kWs_len]; rfl) (fun r1 u1 H1 locs1 hw1 hP1 hD1 hS1 => ?_)
      obtain ⟨gN6, ac6, bo6, gB6⟩ := u1
      obtain ⟨er1, wgN6, wac6, wbo6, wgB6⟩ := hw1
      have wac6 : ac6 = kc (nI d1) := (show ac6 = _ from wac6).trans st_ac
      subst wac6
      have wbo6 : bo6 = kAO aB pi1 := (show bo6 = _ from wbo6).trans (st_bo aB)
      subst wbo6
      have hP1 : va_P G.1 vwCl (cAll G n9 d1 sd h0 t0 t1 b0 s0 i0 e0 e1 e2 e3 aN aT aS0 aS1 pi1 aB L sg ik z tk en mo gN6 gT gS0 gS1 gB6 ++ mAll G Z sd h7 uq tx rp re pg tr bk kp jk sa se sm) H1 := hP1
      have hD1 : va_D A (cAll G n9 d1 sd h0 t0 t1 b0 s0 i0 e0 e1 e2 e3 aN aT aS0 aS1 pi1 aB L sg ik z tk en mo gN6 gT gS0 gS1 gB6 ++ mAll G Z sd h7 uq tx rp re pg tr bk kp jk sa se sm) := hD1
      rw [← show _ = _ from wgN6] at hR1
      rw [← show _ = _ from wgB6] at hR1
      refine lv_aload_n hx hb dL_law_434 rfl (lv_at hl 1 rfl) ?_
      refine lw_arg kx hX hbl hbA hS1 hI hn hl (k := 1) (by decide) rfl g0 dL_law_435 dL_law_436 dL_law_437 dL_law_438 dL_law_439 ?_
      have cz := c_X7_poll_x l G Z sd h7 (uq 1) (uq 2) (uq 3) (uq 4) (uq 5) (uq 6) (uq 7) (uq 8) (uq 9) (uq 10) (uq 11) p0 c0 c1
      refine k_calli (kRunV (As := [.int p0]) (rest := [.int r1]) kx cz q_882 q_879 q_36 q_880 q_881 nX7_poll ⟨Nat.le_of_ble_eq_true rfl, Nat.le_of_ble_eq_true rfl⟩ hK hP1 hD1 (kPm_skipB (kPm_keep (kPm_none _))).ctx 0 7 rfl rfl rfl rfl hl.1 (Nat.le_of_ble_eq_true rfl) dL_law_440 hf) hP1 hD1 hS1 hA (kPm_skipB (kPm_keep (kPm_none _))).ctx (fun _ => rfl) (fun r2 u2 H2 locs2 hw2 hP2 hD2 hS2 => ?_)
      have er2 := hw2
      have hP2 : va_P G.1 vwCl (cAll G n9 d1 sd h0 t0 t1 b0 s0 i0 e0 e1 e2 e3 aN aT aS0 aS1 pi1 aB L sg ik z tk en mo gN6 gT gS0 gS1 gB6 ++ mAll G (upd Z 0 0) sd h7 uq tx rp re pg tr bk kp jk sa se sm) H2 := hP2
      have hD2 : va_D A (cAll G n9 d1 sd h0 t0 t1 b0 s0 i0 e0 e1 e2 e3 aN aT aS0 aS1 pi1 aB L sg ik z tk en mo gN6 gT gS0 gS1 gB6 ++ mAll G (upd Z 0 0) sd h7 uq tx rp re pg tr bk kp jk sa se sm) := hD2
      refine lv_icmp_eq (tgt := 903) hx hb dL_law_443 (by decide) (fun _ => next _ _ ⟨_, _, _, _, _, _, _, _, _, _, _, _, _, _, _, _, _, _, _, _, _, _, _, _, _, _, _, hR1, hP2, hD2⟩ hS2) (fun c9 => absurd ((show r1 = _ from er1).trans (ea.trans (show r2 = _ from er2).symm)) c9)
set_option maxHeartbeats 4000000 in
set_option maxRecDepth 100000 in
theorem lw_undo (kx : kX p s m args meth c cL_law 4 rr RL) (hK : kK G s) (hX : va_X b n0 xs s s.heap) (hbl : b < s.heap.size) (hbA : ¬ A b) (hA : ∀ q, s.heap.size ≤ q → A q) (hf : cells ≤ room_1.cells ∧ slots ≤ room_1.slots) (hS : va_S A s.heap H locs) (hI : I + 4 ≤ n0) (hn : n0 ≤ 2048) (hl : lv_has ls 4 [(3, .int (nI I)), (2, .ref h7), (1, .ref h0), (0, .ref b)]) (hs : lwS G n9 A h0 t0 t1 b0 s0 i0 e0 e1 e2 e3 aN aT aS0 aS1 aB h7 uq H) (next : ∀ (H1 : Heap) (locs1 : List Loc), lwS G n9 A h0 t0 t1 b0 s0 i0 e0 e1 e2 e3 aN aT aS0 aS1 aB h7 uq H1 → va_S A s.heap H1 locs1 → W p l e room_1 s m args below meth c H1 locs1 cells slots Qq (F0 m 903 ls [])) : W p l e room_1 s m args below meth c H locs cells slots Qq (F0 m 448 ls []) := by
  have hx := kx.1
  have hb := kx.2.1
  obtain ⟨d, sd, pi, L, sg, ik, z, tk, en, mo, gN, gT, gS0, gS1, gB, Z, tx, rp, re, pg, tr, bk, kp, jk, sa, se, sm, hR, hP, hD⟩ := hs
  obtain ⟨n14, bd, cL, ez, ⟨f1, f2, f3⟩, hw, hB, htx, hk, hv⟩ := id hR
  obtain ⟨ea, d1, st_ac, hR1⟩ := st_undo hR
  refine lv_aload_n hx hb dL_law_448 rfl (lv_at hl 2 rfl) ?_
  refine k_calli (kRunV (As := []) (rest := []) kx (c_X6_undo l G d sd h0 t0 aN aT b0 s0 i0 e0 n9 pi aB gN gB bd hB.1 n14 hB.2.2.1) q_530 q_527 q_29 q_528 q_529 nX6_undo ⟨Nat.le_of_ble_eq_true rfl, Nat.le_of_ble_eq_true rfl⟩ hK hP hD (kPm_left (kPm_app (kPm_keep (kPm_skip (kPm_skip (kPm_keep (kPm_none _))))) (kPm_keepB (kPm_skipB (kPm_skipB (kPm_skipB (kPm_all _))))))).ctx 0 6 rfl rfl rfl rfl hl.1 (Nat.le_of_ble_eq_true rfl) dL_law_449 hf) hP hD hS hA (kPm_left (kPm_app (kPm_keep (kPm_skip (kPm_skip (kPm_keep (kPm_none _))))) (kPm_keepB (kPm_skipB (kPm_skipB (kPm_skipB (kPm_all _))))))).ctx (fun _ => by simp only [List.length_append, kWs_len]; rfl) (fun r1 u1 H1 locs1 hw1 hP1 hD1 hS1 => ?_)
  obtain ⟨gN6, ac6⟩ := u1
  obtain ⟨er1, wgN6, wac6⟩ := hw1
  have wac6 : ac6 = kc (nI d1) := (show ac6 = _ from wac6).trans st_ac
  subst wac6
  have hP1 : va_P G.1 vwCl (cAll G n9 d1 sd h0 t0 t1 b0 s0 i0 e0 e1 e2 e3 aN aT aS0 aS1 pi aB L sg ik z tk en mo gN6 gT gS0 gS1 gB ++ mAll G Z sd h7 uq tx rp re pg tr bk kp jk sa se sm) H1 := hP1
  have hD1 : va_D A (cAll G n9 d1 sd h0 t0 t1 b0 s0 i0 e0 e1 e2 e3 aN aT aS0 aS1 pi aB L sg ik z tk en mo gN6 gT gS0 gS1 gB ++ mAll G Z sd h7 uq tx rp re pg tr bk kp jk sa se sm) := hD1
  rw [← show _ = _ from wgN6] at hR1
  refine lv_aload_n hx hb dL_law_452 rfl (lv_at hl 1 rfl) ?_
  have cz := c_X7_undo l G Z d sd h7 (uq 1) (uq 2) (uq 3) (uq 4) (uq 5) (uq 6) (uq 7) (uq 8) (uq 9) (uq 10) (uq 11) pg bk bd
  rw [kupd_same f2] at cz
  try rw [kupd_same f2] at hR1
  try rw [kupd_same f2] at ea
  refine k_calli (kRunV (As := []) (rest := [.int r1]) kx cz q_892 q_889 q_36 q_890 q_891 nX7_undo ⟨Nat.le_of_ble_eq_true rfl, Nat.le_of_ble_eq_true rfl⟩ hK hP1 hD1 (kPm_skipB (kPm_keep (kPm_skip (kPm_skip (kPm_skip (kPm_keep (kPm_skip (kPm_keep (kPm_none _))))))))).ctx 0 7 rfl rfl rfl rfl hl.1 (Nat.le_of_ble_eq_true rfl) dL_law_453 hf) hP1 hD1 hS1 hA (kPm_skipB (kPm_keep (kPm_skip (kPm_skip (kPm_skip (kPm_keep (kPm_skip (kPm_keep (kPm_none _))))))))).ctx (fun _ => rfl) (fun r2 u2 H2 locs2 hw2 hP2 hD2 hS2 => ?_)
  obtain ⟨Z7, pg7⟩ := u2
  obtain ⟨er2, wZ7, wpg7⟩ := hw2
  rw [← show _ = _ from wZ7] at hR1
  rw [← show _ = _ from wpg7] at hR1
  have hP2 : va_P G.1 vwCl (cAll G n9 d1 sd h0 t0 t1 b0 s0 i0 e0 e1 e2 e3 aN aT aS0 aS1 pi aB L sg ik z tk en mo gN6 gT gS0 gS1 gB ++ mAll G Z7 sd h7 uq tx rp re pg7 tr bk kp jk sa se sm) H2 := hP2
  have hD2 : va_D A (cAll G n9 d1 sd h0 t0 t1 b0 s0 i0 e0 e1 e2 e3 aN aT aS0 aS1 pi aB L sg ik z tk en mo gN6 gT gS0 gS1 gB ++ mAll G Z7 sd h7 uq tx rp re pg7 tr bk kp jk sa se sm) := hD2
  refine lv_icmp_eq (tgt := 903) hx hb dL_law_456 (by decide) (fun _ => next _ _ ⟨_, _, _, _, _, _, _, _, _, _, _, _, _, _, _, _, _, _, _, _, _, _, _, _, _, _, _, hR1, hP2, hD2⟩ hS2) (fun c9 => absurd ((show r1 = _ from er1).trans (ea.trans (show r2 = _ from er2).symm)) c9)
end LW
