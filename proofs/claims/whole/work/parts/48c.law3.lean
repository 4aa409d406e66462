section LW
variable {p : Program} {l : Launch} {e : Env} {s : State} {m : MethodId} {args : Array Value} {below : List Frame} {meth : Method} {c : Code} {H : Heap} {locs : List Loc} {cells slots : Nat} {Qq : State → Prop} {rr : Option FieldType}
variable {ls : Array Slot} {rest : List Value} {G : kG} {A : Nat → Prop} {b n0 I n9 : Nat} {xs : Nat → Int32} {h0 t0 t1 b0 s0 i0 e0 e1 e2 e3 : Nat} {aN aT aS0 aS1 : Nat → Nat} {aB : Nat → Nat → Nat} {h7 : Nat} {uq : Nat → Nat}
set_option maxHeartbeats 4000000 in
set_option maxRecDepth 100000 in
theorem lw_ahead (kx : kX p s m args meth c cL_law 4 rr RL) (hK : kK G s) (hX : va_X b n0 xs s s.heap) (hbl : b < s.heap.size) (hbA : ¬ A b) (hA : ∀ q, s.heap.size ≤ q → A q) (hf : cells ≤ room_1.cells ∧ slots ≤ room_1.slots) (hS : va_S A s.heap H locs) (hI : I + 4 ≤ n0) (hn : n0 ≤ 2048) (hl : lv_has ls 4 [(3, .int (nI I)), (2, .ref h7), (1, .ref h0), (0, .ref b)]) (hs : lwS G n9 A h0 t0 t1 b0 s0 i0 e0 e1 e2 e3 aN aT aS0 aS1 aB h7 uq H) (next : ∀ (H1 : Heap) (locs1 : List Loc), lwS G n9 A h0 t0 t1 b0 s0 i0 e0 e1 e2 e3 aN aT aS0 aS1 aB h7 uq H1 → va_S A s.heap H1 locs1 → W p l e room_1 s m args below meth c H1 locs1 cells slots Qq (F0 m 903 ls [])) : W p l e room_1 s m args below meth c H locs cells slots Qq (F0 m 461 ls []) := by
  have hx := kx.1
  have hb := kx.2.1
  obtain ⟨d, sd, pi, L, sg, ik, z, tk, en, mo, gN, gT, gS0, gS1, gB, Z, tx, rp, re, pg, tr, bk, kp, jk, sa, se, sm, hR, hP, hD⟩ := hs
  obtain ⟨p0, g0⟩ : ∃ v, xs (I + 1) = v := ⟨_, rfl⟩
  obtain ⟨p1, g1⟩ : ∃ v, xs (I + 2) = v := ⟨_, rfl⟩
  obtain ⟨n14, bd, cL, ez, ⟨f1, f2, f3⟩, hw, hB, htx, hk, hv⟩ := id hR
  obtain ⟨ea, hR1⟩ := st_ahead hR tr p0 p1
  refine lv_aload_n hx hb dL_law_461 rfl (lv_at hl 2 rfl) ?_
  refine lw_arg kx hX hbl hbA hS hI hn hl (k := 1) (by decide) rfl g0 dL_law_462 dL_law_463 dL_law_464 dL_law_465 dL_law_466 ?_
  refine lw_arg kx hX hbl hbA hS hI hn hl (k := 2) (by decide) rfl g1 dL_law_467 dL_law_468 dL_law_469 dL_law_470 dL_law_471 ?_
  refine k_calli (kRunV (As := [.int p0, .int p1]) (rest := []) kx (c_X6_ahead l G (nI d) sd h0 t0 aN aT b0 s0 i0 e0 gN gT p0 p1 hw.2.2.2.2.2.1) q_534 q_531 q_29 q_532 q_533 nX6_ahead ⟨Nat.le_of_ble_eq_true rfl, Nat.le_of_ble_eq_true rfl⟩ hK hP hD (kPm_left (kPm_app (kPm_keep (kPm_none _)) (kPm_keepB (kPm_left (kPm_all _))))).ctx 0 6 rfl rfl rfl rfl hl.1 (Nat.le_of_ble_eq_true rfl) dL_law_472 hf) hP hD hS hA (kPm_left (kPm_app (kPm_keep (kPm_none _)) (kPm_keepB (kPm_left (kPm_all _))))).ctx (fun _ => rfl) (fun r1 u1 H1 locs1 hw1 hP1 hD1 hS1 => ?_)
  obtain ⟨gT6, rfl⟩ : ∃ w, w = u1 := ⟨_, rfl⟩
  obtain ⟨er1, wgT6⟩ := hw1
  have hP1 : va_P G.1 vwCl (cAll G n9 d sd h0 t0 t1 b0 s0 i0 e0 e1 e2 e3 aN aT aS0 aS1 pi aB L sg ik z tk en mo gN gT6 gS0 gS1 gB ++ mAll G Z sd h7 uq tx rp re pg tr bk kp jk sa se sm) H1 := hP1
  have hD1 : va_D A (cAll G n9 d sd h0 t0 t1 b0 s0 i0 e0 e1 e2 e3 aN aT aS0 aS1 pi aB L sg ik z tk en mo gN gT6 gS0 gS1 gB ++ mAll G Z sd h7 uq tx rp re pg tr bk kp jk sa se sm) := hD1
  refine lv_aload_n hx hb dL_law_475 rfl (lv_at hl 1 rfl) ?_
  refine lw_arg kx hX hbl hbA hS1 hI hn hl (k := 1) (by decide) rfl g0 dL_law_476 dL_law_477 dL_law_478 dL_law_479 dL_law_480 ?_
  refine lw_arg kx hX hbl hbA hS1 hI hn hl (k := 2) (by decide) rfl g1 dL_law_481 dL_law_482 dL_law_483 dL_law_484 dL_law_485 ?_
  have cz := c_X7_ahead l G Z sd h7 (uq 1) (uq 2) (uq 3) (uq 4) (uq 5) (uq 6) (uq 7) (uq 8) (uq 9) (uq 10) (uq 11) pg tr p0 p1
  refine k_calli (kRunV (As := [.int p0, .int p1]) (rest := [.int r1]) kx cz q_896 q_893 q_36 q_894 q_895 nX7_ahead ⟨Nat.le_of_ble_eq_true rfl, Nat.le_of_ble_eq_true rfl⟩ hK hP1 hD1 (kPm_skipB (kPm_keep (kPm_skip (kPm_skip (kPm_skip (kPm_keep (kPm_keep (kPm_none _)))))))).ctx 0 7 rfl rfl rfl rfl hl.1 (Nat.le_of_ble_eq_true rfl) dL_law_486 hf) hP1 hD1 hS1 hA (kPm_skipB (kPm_keep (kPm_skip (kPm_skip (kPm_skip (kPm_keep (kPm_keep (kPm_none _)))))))).ctx (fun _ => rfl) (fun r2 u2 H2 locs2 hw2 hP2 hD2 hS2 => ?_)
  obtain ⟨Z7, tr7⟩ := u2
  obtain ⟨er2, wZ7, wtr7⟩ := hw2
  rw [← show _ = _ from wZ7] at hR1
  have hP2 : va_P G.1 vwCl (cAll G n9 d sd h0 t0 t1 b0 s0 i0 e0 e1 e2 e3 aN aT aS0 aS1 pi aB L sg ik z tk en mo gN gT6 gS0 gS1 gB ++ mAll G Z7 sd h7 uq tx rp re pg tr7 bk kp jk sa se sm) H2 := hP2
  have hD2 : va_D A (cAll G n9 d sd h0 t0 t1 b0 s0 i0 e0 e1 e2 e3 aN aT aS0 aS1 pi aB L sg ik z tk en mo gN gT6 gS0 gS1 gB ++ mAll G Z7 sd h7 uq tx rp re pg tr7 bk kp jk sa se sm) := hD2
  refine lv_icmp_eq (tgt := 903) hx hb dL_law_489 (by decide) (fun _ => next _ _ ⟨_, _, _, _, _, _, _, _, _, _, _, _, _, _, _, _, _, _, _, _, _, _, _, _, _, _, _, hR1, hP2, hD2⟩ hS2) (fun c9 => absurd ((show r1 = _ from er1).trans (ea.trans (show r2 = _ from er2).symm)) c9)
set_option maxHeartbeats 4000000 in
set_option maxRecDepth 100000 in
theorem lw_letters (kx : kX p s m args meth c cL_law 4 rr RL) (hK : kK G s) (hX : va_X b n0 xs s s.heap) (hbl : b < s.heap.size) (hbA : ¬ A b) (hA : ∀ q, s.heap.size ≤ q → A q) (hf : cells ≤ room_1.cells ∧ slots ≤ room_1.slots) (hS : va_S A s.heap H locs) (hI : I + 4 ≤ n0) (hn : n0 ≤ 2048) (hl : lv_has ls 4 [(3, .int (nI I)), (2, .ref h7), (1, .ref h0), (0, .ref b)]) (hs : lwS G n9 A h0 t0 t1 b0 s0 i0 e0 e1 e2 e3 aN aT aS0 aS1 aB h7 uq H) (next : ∀ (H1 : Heap) (locs1 : List Loc), lwS G n9 A h0 t0 t1 b0 s0 i0 e0 e1 e2 e3 aN aT aS0 aS1 aB h7 uq H1 → va_S A s.heap H1 locs1 → W p l e room_1 s m args below meth c H1 locs1 cells slots Qq (F0 m 903 ls [])) : W p l e room_1 s m args below meth c H locs cells slots Qq (F0 m 494 ls []) := by
  have hx := kx.1
  have hb := kx.2.1
  obtain ⟨d, sd, pi, L, sg, ik, z, tk, en, mo, gN, gT, gS0, gS1, gB, Z, tx, rp, re, pg, tr, bk, kp, jk, sa, se, sm, hR, hP, hD⟩ := hs
  obtain ⟨p0, g0⟩ : ∃ v, xs (I + 1) = v := ⟨_, rfl⟩
  obtain ⟨n14, bd, cL, ez, ⟨f1, f2, f3⟩, hw, hB, htx, hk, hv⟩ := id hR
  obtain ⟨ea, hR1⟩ := st_letters hR tr p0
  refine lv_aload_n hx hb dL_law_494 rfl (lv_at hl 2 rfl) ?_
  refine lw_arg kx hX hbl hbA hS hI hn hl (k := 1) (by decide) rfl g0 dL_law_495 dL_law_496 dL_law_497 dL_law_498 dL_law_499 ?_
  refine k_calli (kRunV (As := [.int p0]) (rest := []) kx (c_X6_letters l G (nI d) sd h0 t0 aN aT b0 s0 i0 e0 gN gT p0 hw.2.2.2.2.2.1) q_538 q_535 q_29 q_536 q_537 nX6_letters ⟨Nat.le_of_ble_eq_true rfl, Nat.le_of_ble_eq_true rfl⟩ hK hP hD (kPm_left (kPm_app (kPm_keep (kPm_none _)) (kPm_keepB (kPm_left (kPm_all _))))).ctx 0 6 rfl rfl rfl rfl hl.1 (Nat.le_of_ble_eq_true rfl) dL_law_500 hf) hP hD hS hA (kPm_left (kPm_app (kPm_keep (kPm_none _)) (kPm_keepB (kPm_left (kPm_all _))))).ctx (fun _ => rfl) (fun r1 u1 H1 locs1 hw1 hP1 hD1 hS1 => ?_)
  obtain ⟨gT6, rfl⟩ : ∃ w, w = u1 := ⟨_, rfl⟩
  obtain ⟨er1, wgT6⟩ := hw1
  have hP1 : va_P G.1 vwCl (cAll G n9 d sd h0 t0 t1 b0 s0 i0 e0 e1 e2 e3 aN aT aS0 aS1 pi aB L sg ik z tk en mo gN gT6 gS0 gS1 gB ++ mAll G Z sd h7 uq tx rp re pg tr bk kp jk sa se sm) H1 := hP1
  have hD1 : va_D A (cAll G n9 d sd h0 t0 t1 b0 s0 i0 e0 e1 e2 e3 aN aT aS0 aS1 pi aB L sg ik z tk en mo gN gT6 gS0 gS1 gB ++ mAll G Z sd h7 uq tx rp re pg tr bk kp jk sa se sm) := hD1
  refine lv_aload_n hx hb dL_law_503 rfl (lv_at hl 1 rfl) ?_
  refine lw_arg kx hX hbl hbA hS1 hI hn hl (k := 1) (by decide) rfl g0 dL_law_504 dL_law_505 dL_law_506 dL_law_507 dL_law_508 ?_
  have cz := c_X7_letters l G Z sd h7 (uq 1) (uq 2) (uq 3) (uq 4) (uq 5) (uq 6) (uq 7) (uq 8) (uq 9) (uq 10) (uq 11) pg tr p0
  refine k_calli (kRunV (As := [.int p0]) (rest := [.int r1]) kx cz q_902 q_899 q_36 q_900 q_901 nX7_letters ⟨Nat.le_of_ble_eq_true rfl, Nat.le_of_ble_eq_true rfl⟩ hK hP1 hD1 (kPm_skipB (kPm_keep (kPm_skip (kPm_skip (kPm_skip (kPm_keep (kPm_keep (kPm_none _)))))))).ctx 0 7 rfl rfl rfl rfl hl.1 (Nat.le_of_ble_eq_true rfl) dL_law_509 hf) hP1 hD1 hS1 hA (kPm_skipB (kPm_keep (kPm_skip (kPm_skip (kPm_skip (kPm_keep (kPm_keep (kPm_none _)))))))).ctx (fun _ => rfl) (fun r2 u2 H2 locs2 hw2 hP2 hD2 hS2 => ?_)
  obtain ⟨Z7, tr7⟩ := u2
  obtain ⟨er2, wZ7, wtr7⟩ := hw2
  rw [← show _ = _ from wZ7] at hR1
  have hP2 : va_P G.1 vwCl (cAll G n9 d sd h0 t0 t1 b0 s0 i0 e0 e1 e2 e3 aN aT aS0 aS1 pi aB L sg ik z tk en mo gN gT6 gS0 gS1 gB ++ mAll G Z7 sd h7 uq tx rp re pg tr7 bk kp jk sa se sm) H2 := hP2
  have hD2 : va_D A (cAll G n9 d sd h0 t0 t1 b0 s0 i0 e0 e1 e2 e3 aN aT aS0 aS1 pi aB L sg ik z tk en mo gN gT6 gS0 gS1 gB ++ mAll G Z7 sd h7 uq tx rp re pg tr7 bk kp jk sa se sm) := hD2
  refine lv_icmp_eq (tgt := 903) hx hb dL_law_512 (by decide) (fun _ => next _ _ ⟨_, _, _, _, _, _, _, _, _, _, _, _, _, _, _, _, _, _, _, _, _, _, _, _, _, _, _, hR1, hP2, hD2⟩ hS2) (fun c9 => absurd ((show r1 = _ from er1).trans (ea.trans (show r2 = _ from er2).symm)) c9)
set_option maxHeartbeats 4000000 in
set_option maxRecDepth 100000 in
theorem lw_see (kx : kX p s m args meth c cL_law 4 rr RL) (hK : kK G s) (hX : va_X b n0 xs s s.heap) (hbl : b < s.heap.size) (hbA : ¬ A b) (hA : ∀ q, s.heap.size ≤ q → A q) (hf : cells ≤ room_1.cells ∧ slots ≤ room_1.slots) (hS : va_S A s.heap H locs) (hI : I + 4 ≤ n0) (hn : n0 ≤ 2048) (hl : lv_has ls 4 [(3, .int (nI I)), (2, .ref h7), (1, .ref h0), (0, .ref b)]) (hs : lwS G n9 A h0 t0 t1 b0 s0 i0 e0 e1 e2 e3 aN aT aS0 aS1 aB h7 uq H) (next : ∀ (H1 : Heap) (locs1 : List Loc), lwS G n9 A h0 t0 t1 b0 s0 i0 e0 e1 e2 e3 aN aT aS0 aS1 aB h7 uq H1 → va_S A s.heap H1 locs1 → W p l e room_1 s m args below meth c H1 locs1 cells slots Qq (F0 m 903 ls [])) : W p l e room_1 s m args below meth c H locs cells slots Qq (F0 m 580 ls []) := by
  have hx := kx.1
  have hb := kx.2.1
  obtain ⟨d, sd, pi, L, sg, ik, z, tk, en, mo, gN, gT, gS0, gS1, gB, Z, tx, rp, re, pg, tr, bk, kp, jk, sa, se, sm, hR, hP, hD⟩ := hs
  obtain ⟨p0, g0⟩ : ∃ v, xs (I + 1) = v := ⟨_, rfl⟩
  obtain ⟨p1, g1⟩ : ∃ v, xs (I + 2) = v := ⟨_, rfl⟩
  obtain ⟨p2, g2⟩ : ∃ v, xs (I + 3) = v := ⟨_, rfl⟩
  by_cases c0 : p1 = 0
  · subst c0
    obtain ⟨n14, bd, cL, ez, ⟨f1, f2, f3⟩, hw, hB, htx, hk, hv⟩ := id hR
    obtain ⟨ea, z1, st_sz, hR1⟩ := st_see_0 hR p0 p2
    refine lv_aload_n hx hb dL_law_580 rfl (lv_at hl 2 rfl) ?_
    refine lw_arg kx hX hbl hbA hS hI hn hl (k := 1) (by decide) rfl g0 dL_law_581 dL_law_582 dL_law_583 dL_law_584 dL_law_585 ?_
    refine lw_arg kx hX hbl hbA hS hI hn hl (k := 2) (by decide) rfl g1 dL_law_586 dL_law_587 dL_law_588 dL_law_589 dL_law_590 ?_
    refine lw_arg kx hX hbl hbA hS hI hn hl (k := 3) (by decide) rfl g2 dL_law_591 dL_law_592 dL_law_593 dL_law_594 dL_law_595 ?_
    refine k_calli (kRunV (As := [.int p0, .int 0, .int p2]) (rest := []) kx (c_X6_see l G (nI d) sd h0 t0 aN aT b0 s0 i0 e0 z tk en mo e1 e2 e3 p0 0 p2 ez) q_562 q_559 q_29 q_560 q_561 nX6_see ⟨Nat.le_of_ble_eq_true rfl, Nat.le_of_ble_eq_true rfl⟩ hK hP hD (kPm_left (kPm_left (kPm_keep (kPm_skip (kPm_skip (kPm_skip (kPm_skip (kPm_skip (kPm_keep (kPm_keep (kPm_keep (kPm_keep (kPm_none _))))))))))))).ctx 0 6 rfl rfl rfl rfl hl.1 (Nat.le_of_ble_eq_true rfl) dL_law_596 hf) hP hD hS hA (kPm_left (kPm_left (kPm_keep (kPm_skip (kPm_skip (kPm_skip (kPm_skip (kPm_skip (kPm_keep (kPm_keep (kPm_keep (kPm_keep (kPm_none _))))))))))))).ctx (fun _ => rfl) (fun r1 u1 H1 locs1 hw1 hP1 hD1 hS1 => ?_)
    obtain ⟨sz6, tk6, en6, mo6⟩ := u1
    obtain ⟨er1, wsz6, wtk6, wen6, wmo6⟩ := hw1
    have wsz6 : sz6 = kc (nI z1) := (show sz6 = _ from wsz6).trans st_sz
    subst wsz6
    have hP1 : va_P G.1 vwCl (cAll G n9 d sd h0 t0 t1 b0 s0 i0 e0 e1 e2 e3 aN aT aS0 aS1 pi aB L sg ik z1 tk6 en6 mo6 gN gT gS0 gS1 gB ++ mAll G Z sd h7 uq tx rp re pg tr bk kp jk sa se sm) H1 := hP1
    have hD1 : va_D A (cAll G n9 d sd h0 t0 t1 b0 s0 i0 e0 e1 e2 e3 aN aT aS0 aS1 pi aB L sg ik z1 tk6 en6 mo6 gN gT gS0 gS1 gB ++ mAll G Z sd h7 uq tx rp re pg tr bk kp jk sa se sm) := hD1
    rw [← show _ = _ from wtk6] at hR1
    rw [← show _ = _ from wen6] at hR1
    rw [← show _ = _ from wmo6] at hR1
    refine lv_aload_n hx hb dL_law_599 rfl (lv_at hl 1 rfl) ?_
    refine lw_arg kx hX hbl hbA hS1 hI hn hl (k := 1) (by decide) rfl g0 dL_law_600 dL_law_601 dL_law_602 dL_law_603 dL_law_604 ?_
    refine lw_arg kx hX hbl hbA hS1 hI hn hl (k := 2) (by decide) rfl g1 dL_law_605 dL_law_606 dL_law_607 dL_law_608 dL_law_609 ?_
    refine lw_arg kx hX hbl hbA hS1 hI hn hl (k := 3) (by decide) rfl g2 dL_law_610 dL_law_611 dL_law_612 dL_law_613 dL_law_614 ?_
    have cz := c_X7_see_0 l G Z z sd h7 (uq 1) (uq 2) (uq 3) (uq 4) (uq 5) (uq 6) (uq 7) (uq 8) (uq 9) (uq 10) (uq 11) sa se sm p0 p2 ez
    rw [kupd_same f3] at cz
    try rw [kupd_same f3] at hR1
    try rw [kupd_same f3] at ea
    refine k_calli (kRunV (As := [.int p0, .int 0, .int p2]) (rest := [.int r1]) kx cz q_918 q_915 q_36 q_916 q_917 nX7_see ⟨Nat.le_of_ble_eq_true rfl, Nat.le_of_ble_eq_true rfl⟩ hK hP1 hD1 (kPm_skipB (kPm_keep (kPm_skip (kPm_skip (kPm_skip (kPm_skip (kPm_skip (kPm_skip (kPm_skip (kPm_skip (kPm_keep (kPm_keep (kPm_keep (kPm_none _)))))))))))))).ctx 0 7 rfl rfl rfl rfl hl.1 (Nat.le_of_ble_eq_true rfl) dL_law_615 hf) hP1 hD1 hS1 hA (kPm_skipB (kPm_keep (kPm_skip (kPm_skip (kPm_skip (kPm_skip (kPm_skip (kPm_skip (kPm_skip (kPm_skip (kPm_keep (kPm_keep (kPm_keep (kPm_none _)))))))))))))).ctx (fun _ => rfl) (fun r2 u2 H2 locs2 hw2 hP2 hD2 hS2 => ?_)
    obtain ⟨Z7, sa7, se7, sm7⟩ := u2
    obtain ⟨er2, wZ7, wsa7, wse7, wsm7⟩ := hw2
    rw [← show _ = _ from wZ7] at hR1
    rw [← show _ = _ from wsa7] at hR1
    rw [← show _ = _ from wse7] at hR1
    rw [← show _ = _ from wsm7] at hR1
    have hP2 : va_P G.1 vwCl (cAll G n9 d sd h0 t0 t1 b0 s0 i0 e0 e1 e2 e3 aN aT aS0 aS1 pi aB L sg ik z1 tk6 en6 mo6 gN gT gS0 gS1 gB ++ mAll G Z7 sd h7 uq tx rp re pg tr bk kp jk sa7 se7 sm7) H2 := hP2
    have hD2 : va_D A (cAll G n9 d sd h0 t0 t1 b0 s0 i0 e0 e1 e2 e3 aN aT aS0 aS1 pi aB L sg ik z1 tk6 en6 mo6 gN gT gS0 gS1 gB ++ mAll G Z7 sd h7 uq tx rp re pg tr bk kp jk sa7 se7 sm7) := hD2
    refine lv_icmp_eq (tgt := 903) hx hb dL_law_618 (by decide) (fun _ => next _ _ ⟨_, _, _, _, _, _, _, _, _, _, _, _, _, _, _, _, _, _, _, _, _, _, _, _, _, _, _, hR1, hP2, hD2⟩ hS2) (fun c9 => absurd ((show r1 = _ from er1).trans (ea.trans (show r2 = _ from er2).symm)) c9)
  · by_cases c1 : p1 = 1
    · subst c1
      obtain ⟨n14, bd, cL, ez, ⟨f1, f2, f3⟩, hw, hB, htx, hk, hv⟩ := id hR
      obtain ⟨ea, z1, st_sz, hR1⟩ := st_see_1 hR p0 p2
      refine lv_aload_n hx hb dL_law_580 rfl (lv_at hl 2 rfl) ?_
      refine lw_arg kx hX hbl hbA hS hI hn hl (k := 1) (by decide) rfl g0 dL_law_581 dL_law_582 dL_law_583 dL_law_584 dL_law_585 ?_
      refine lw_arg kx hX hbl hbA hS hI hn hl (k := 2) (by decide) rfl g1 dL_law_586 dL_law_587 dL_law_588 dL_law_589 dL_law_590 ?_
      refine lw_arg kx hX hbl hbA hS hI hn hl (k := 3) (by decide) rfl g2 dL_law_591 dL_law_592 dL_law_593 dL_law_594 dL_law_595 ?_
      refine k_calli (kRunV (As := [.int p0, .int 1, .int p2]) (rest := []) kx (c_X6_see l G (nI d) sd h0 t0 aN aT b0 s0 i0 e0 z tk en mo e1 e2 e3 p0 1 p2 ez) q_562 q_559 q_29 q_560 q_561 nX6_see ⟨Nat.le_of_ble_eq_true rfl, Nat.le_of_ble_eq_true rfl⟩ hK hP hD (kPm_left (kPm_left (kPm_keep (kPm_skip (kPm_skip (kPm_skip (kPm_skip (kPm_skip (kPm_keep (kPm_keep (kPm_keep (kPm_keep (kPm_none _))))))))))))).ctx 0 6 rfl rfl rfl rfl hl.1 (Nat.le_of_ble_eq_true rfl) dL_law_596 hf) hP hD hS hA (kPm_left (kPm_left (kPm_keep (kPm_skip (kPm_skip (kPm_skip (kPm_skip (kPm_skip (kPm_keep (kPm_keep (kPm_keep (kPm_keep (kPm_none _))))))))))))).ctx (fun _ => rfl) (fun r1 u1 H1 locs1 hw1 hP1 hD1 hS1 => ?_)
      obtain ⟨sz6, tk6, en6, mo6⟩ := u1
      obtain ⟨er1, wsz6, wtk6, wen6, wmo6⟩ := hw1
      have wsz6 : sz6 = kc (nI z1) := (show sz6 = _ from wsz6).trans st_sz
      subst wsz6
      have hP1 : va_P G.1 vwCl (cAll G n9 d sd h0 t0 t1 b0 s0 i0 e0 e1 e2 e3 aN aT aS0 aS1 pi aB L sg ik z1 tk6 en6 mo6 gN gT gS0 gS1 gB ++ mAll G Z sd h7 uq tx rp re pg tr bk kp jk sa se sm) H1 := hP1
      have hD1 : va_D A (cAll G n9 d sd h0 t0 t1 b0 s0 i0 e0 e1 e2 e3 aN aT aS0 aS1 pi aB L sg ik z1 tk6 en6 mo6 gN gT gS0 gS1 gB ++ mAll G Z sd h7 uq tx rp re pg tr bk kp jk sa se sm) := hD1
      rw [← show _ = _ from wtk6] at hR1
      rw [← show _ = _ from wen6] at hR1
      rw [← show _ = _ from wmo6] at hR1
      refine lv_aload_n hx hb dL_law_599 rfl (lv_at hl 1 rfl) ?_
      refine lw_arg kx hX hbl hbA hS1 hI hn hl (k := 1) (by decide) rfl g0 dL_law_600 dL_law_601 dL_law_602 dL_law_603 dL_law_604 ?_
      refine lw_arg kx hX hbl hbA hS1 hI hn hl (k := 2) (by decide) rfl g1 dL_law_605 dL_law_606 dL_law_607 dL_law_608 dL_law_609 ?_
      refine lw_arg kx hX hbl hbA hS1 hI hn hl (k := 3) (by decide) rfl g2 dL_law_610 dL_law_611 dL_law_612 dL_law_613 dL_law_614 ?_
      have cz := c_X7_see_1 l G Z z sd h7 (uq 1) (uq 2) (uq 3) (uq 4) (uq 5) (uq 6) (uq 7) (uq 8) (uq 9) (uq 10) (uq 11) sa se sm p0 p2 ez
      rw [kupd_same f3] at cz
      try rw [kupd_same f3] at hR1
      try rw [kupd_same f3] at ea
      refine k_calli (kRunV (As := [.int p0, .int 1, .int p2]) (rest := [.int r1]) kx cz q_918 q_915 q_36 q_916 q_917 nX7_see ⟨Nat.le_of_ble_eq_true rfl, Nat.le_of_ble_eq_true rfl⟩ hK hP1 hD1 (kPm_skipB (kPm_keep (kPm_skip (kPm_skip (kPm_skip (kPm_skip (kPm_skip (kPm_skip (kPm_skip (kPm_skip (kPm_keep (kPm_keep (kPm_keep (kPm_none _)))))))))))))).ctx 0 7 rfl rfl rfl rfl hl.1 (Nat.le_of_ble_eq_true rfl) dL_law_615 hf) hP1 hD1 hS1 hA (kPm_skipB (kPm_keep (kPm_skip (kPm_skip (kPm_skip (kPm_skip (kPm_skip (kPm_skip (kPm_skip (kPm_skip (kPm_keep (kPm_keep (kPm_keep (kPm_none _)))))))))))))).ctx (fun _ => rfl) (fun r2 u2 H2 locs2 hw2 hP2 hD2 hS2 => ?_)
      obtain ⟨Z7, sa7, se7, sm7⟩ := u2
      obtain ⟨er2, wZ7, wsa7, wse7, wsm7⟩ := hw2
      rw [← show _ = _ from wZ7] at hR1
      rw [← show _ = _ from wsa7] at hR1
      rw [← show _ = _ from wse7] at hR1
      rw [← show _ = _ from wsm7] at hR1
      have hP2 : va_P G.1 vwCl (cAll G n9 d sd h0 t0 t1 b0 s0 i0 e0 e1 e2 e3 aN aT aS0 aS1 pi aB L sg ik z1 tk6 en6 mo6 gN gT gS0 gS1 gB ++ mAll G Z7 sd h7 uq tx rp re pg tr bk kp jk sa7 se7 sm7) H2 := hP2
      have hD2 : va_D A (cAll G n9 d sd h0 t0 t1 b0 s0 i0 e0 e1 e2 e3 aN aT aS0 aS1 pi aB L sg ik z1 tk6 en6 mo6 gN gT gS0 gS1 gB ++ mAll G Z7 sd h7 uq tx rp re pg tr bk kp jk sa7 se7 sm7) := hD2
      refine lv_icmp_eq (tgt := 903) hx hb dL_law_618 (by decide) (fun _ => next _ _ ⟨_, _, _, _, _, _, _, _, _, _, _, _, _, _, _, _, _, _, _, _, _, _, _, _, _, _, _, hR1, hP2, hD2⟩ hS2) (fun c9 => absurd ((show r1 = _ from er1).trans (ea.trans (show r2 = _ from er2).symm)) c9)
    · skip
      obtain ⟨n14, bd, cL, ez, ⟨f1, f2, f3⟩, hw, hB, htx, hk, hv⟩ := id hR
      obtain ⟨ea, z1, st_sz, hR1⟩ := st_see_x hR p0 p1 p2 c0 c1
      refine lv_aload_n hx hb dL_law_580 rfl (lv_at hl 2 rfl) ?_
      refine lw_arg kx hX hbl hbA hS hI hn hl (k := 1) (by decide) rfl g0 dL_law_581 dL_law_582 dL_law_583 dL_law_584 dL_law_585 ?_
      refine lw_arg kx hX hbl hbA hS hI hn hl (k := 2) (by decide) rfl g1 dL_law_586 dL_law_587 dL_law_588 dL_law_589 dL_law_590 ?_
      refine lw_arg kx hX hbl hbA hS hI hn hl (k := 3) (by decide) rfl g2 dL_law_591 dL_law_592 dL_law_593 dL_law_594 dL_law_595 ?_
      refine k_calli (kRunV (As := [.int p0, .int p1, .int p2]) (rest := []) kx (c_X6_see l G (nI d) sd h0 t0 aN aT b0 s0 i0 e0 z tk en mo e1 e2 e3 p0 p1 p2 ez) q_562 q_559 q_29 q_560 q_561 nX6_see ⟨Nat.le_of_ble_eq_true rfl, Nat.le_of_ble_eq_true rfl⟩ hK hP hD (kPm_left (kPm_left (kPm_keep (kPm_skip (kPm_skip (kPm_skip (kPm_skip (kPm_skip (kPm_keep (kPm_keep (kPm_keep (kPm_keep (kPm_none _))))))))))))).ctx 0 6 rfl rfl rfl rfl hl.1 (Nat.le_of_ble_eq_true rfl) dL_law_596 hf) hP hD hS hA (kPm_left (kPm_left (kPm_keep (kPm_skip (kPm_skip (kPm_skip (kPm_skip (kPm_skip (kPm_keep (kPm_keep (kPm_keep (kPm_keep (kPm_none _))))))))))))).ctx (fun _ => rfl) (fun r1 u1 H1 locs1 hw1 hP1 hD1 hS1 => ?_)
      obtain ⟨sz6, tk6, en6, mo6⟩ := u1
      obtain ⟨er1, wsz6, wtk6, wen6, wmo6⟩ := hw1
      have wsz6 : sz6 = kc (nI z1) := (show sz6 = _ from wsz6).trans st_sz
      subst wsz6
      have hP1 : va_P G.1 vwCl (cAll G n9 d sd h0 t0 t1 b0 s0 i0 e0 e1 e2 e3 aN aT aS0 aS1 pi aB L sg ik z1 tk6 en6 mo6 gN gT gS0 gS1 gB ++ mAll G Z sd h7 uq tx rp re pg tr bk kp jk sa se sm) H1 := hP1
      have hD1 : va_D A (cAll G n9 d sd h0 t0 t1 b0 s0 i0 e0 e1 e2 e3 aN aT aS0 aS1 pi aB L sg ik z1 tk6 en6 mo6 gN gT gS0 gS1 gB ++ mAll G Z sd h7 uq tx rp re pg tr bk kp jk sa se sm) := hD1
      rw [← show _ = _ from wtk6] at hR1
      rw [← show _ = _ from wen6] at hR1
      rw [← show _ = _ from wmo6] at hR1
      refine lv_aload_n hx hb dL_law_599 rfl (lv_at hl 1 rfl) ?_
      refine lw_arg kx hX hbl hbA hS1 hI hn hl (k := 1) (by decide) rfl g0 dL_law_600 dL_law_601 dL_law_602 dL_law_603 dL_law_604 ?_
      refine lw_arg kx hX hbl hbA hS1 hI hn hl (k := 2) (by decide) rfl g1 dL_law_605 dL_law_606 dL_law_607 dL_law_608 dL_law_609 ?_
      refine lw_arg kx hX hbl hbA hS1 hI hn hl (k := 3) (by decide) rfl g2 dL_law_610 dL_law_611 dL_law_612 dL_law_613 dL_law_614 ?_
      have cz := c_X7_see_x l G Z sd h7 (uq 1) (uq 2) (uq 3) (uq 4) (uq 5) (uq 6) (uq 7) (uq 8) (uq 9) (uq 10) (uq 11) p0 p1 p2 c0 c1
      refine k_calli (kRunV (As := [.int p0, .int p1, .int p2]) (rest := [.int r1]) kx cz q_918 q_915 q_36 q_916 q_917 nX7_see ⟨Nat.le_of_ble_eq_true rfl, Nat.le_of_ble_eq_true rfl⟩ hK hP1 hD1 (kPm_skipB (kPm_keep (kPm_none _))).ctx 0 7 rfl rfl rfl rfl hl.1 (Nat.le_of_ble_eq_true rfl) dL_law_615 hf) hP1 hD1 hS1 hA (kPm_skipB (kPm_keep (kPm_none _))).ctx (fun _ => rfl) (fun r2 u2 H2 locs2 hw2 hP2 hD2 hS2 => ?_)
      have er2 := hw2
      have hP2 : va_P G.1 vwCl (cAll G n9 d sd h0 t0 t1 b0 s0 i0 e0 e1 e2 e3 aN aT aS0 aS1 pi aB L sg ik z1 tk6 en6 mo6 gN gT gS0 gS1 gB ++ mAll G (upd Z 0 0) sd h7 uq tx rp re pg tr bk kp jk sa se sm) H2 := hP2
      have hD2 : va_D A (cAll G n9 d sd h0 t0 t1 b0 s0 i0 e0 e1 e2 e3 aN aT aS0 aS1 pi aB L sg ik z1 tk6 en6 mo6 gN gT gS0 gS1 gB ++ mAll G (upd Z 0 0) sd h7 uq tx rp re pg tr bk kp jk sa se sm) := hD2
      refine lv_icmp_eq (tgt := 903) hx hb dL_law_618 (by decide) (fun _ => next _ _ ⟨_, _, _, _, _, _, _, _, _, _, _, _, _, _, _, _, _, _, _, _, _, _, _, _, _, _, _, hR1, hP2, hD2⟩ hS2) (fun c9 => absurd ((show r1 = _ from er1).trans (ea.trans (show r2 = _ from er2).symm)) c9)
set_option maxHeartbeats 4000000 in
set_option maxRecDepth 100000 in
theorem lw_unsee (kx : kX p s m args meth c cL_law 4 rr RL) (hK : kK G s) (hX : va_X b n0 xs s s.heap) (hbl : b < s.heap.size) (hbA : ¬ A b) (hA : ∀ q, s.heap.size ≤ q → A q) (hf : cells ≤ room_1.cells ∧ slots ≤ room_1.slots) (hS : va_S A s.heap H locs) (hI : I + 4 ≤ n0) (hn : n0 ≤ 2048) (hl : lv_has ls 4 [(3, .int (nI I)), (2, .ref h7), (1, .ref h0), (0, .ref b)]) (hs : lwS G n9 A h0 t0 t1 b0 s0 i0 e0 e1 e2 e3 aN aT aS0 aS1 aB h7 uq H) (next : ∀ (H1 : Heap) (locs1 : List Loc), lwS G n9 A h0 t0 t1 b0 s0 i0 e0 e1 e2 e3 aN aT aS0 aS1 aB h7 uq H1 → va_S A s.heap H1 locs1 → W p l e room_1 s m args below meth c H1 locs1 cells slots Qq (F0 m 903 ls [])) : W p l e room_1 s m args below meth c H locs cells slots Qq (F0 m 623 ls []) := by
  have hx := kx.1
  have hb := kx.2.1
  obtain ⟨d, sd, pi, L, sg, ik, z, tk, en, mo, gN, gT, gS0, gS1, gB, Z, tx, rp, re, pg, tr, bk, kp, jk, sa, se, sm, hR, hP, hD⟩ := hs
  obtain ⟨n14, bd, cL, ez, ⟨f1, f2, f3⟩, hw, hB, htx, hk, hv⟩ := id hR
  obtain ⟨ea, hR1⟩ := st_unsee hR
  refine lv_aload_n hx hb dL_law_623 rfl (lv_at hl 2 rfl) ?_
  refine k_calli (kRunV (As := []) (rest := []) kx (c_X6_unsee l G (nI d) sd h0 t0 aN aT b0 s0 i0 e0 z tk en mo e1 e2 e3) q_570 q_567 q_29 q_568 q_569 nX6_unsee ⟨Nat.le_of_ble_eq_true rfl, Nat.le_of_ble_eq_true rfl⟩ hK hP hD (kPm_left (kPm_left (kPm_keep (kPm_skip (kPm_skip (kPm_skip (kPm_skip (kPm_skip (kPm_keep (kPm_keep (kPm_keep (kPm_keep (kPm_none _))))))))))))).ctx 0 6 rfl rfl rfl rfl hl.1 (Nat.le_of_ble_eq_true rfl) dL_law_624 hf) hP hD hS hA (kPm_left (kPm_left (kPm_keep (kPm_skip (kPm_skip (kPm_skip (kPm_skip (kPm_skip (kPm_keep (kPm_keep (kPm_keep (kPm_keep (kPm_none _))))))))))))).ctx (fun _ => rfl) (fun r1 u1 H1 locs1 hw1 hP1 hD1 hS1 => ?_)
  have er1 := hw1
  have hP1 : va_P G.1 vwCl (cAll G n9 d sd h0 t0 t1 b0 s0 i0 e0 e1 e2 e3 aN aT aS0 aS1 pi aB L sg ik 0 tk en mo gN gT gS0 gS1 gB ++ mAll G Z sd h7 uq tx rp re pg tr bk kp jk sa se sm) H1 := hP1
  have hD1 : va_D A (cAll G n9 d sd h0 t0 t1 b0 s0 i0 e0 e1 e2 e3 aN aT aS0 aS1 pi aB L sg ik 0 tk en mo gN gT gS0 gS1 gB ++ mAll G Z sd h7 uq tx rp re pg tr bk kp jk sa se sm) := hD1
  refine lv_aload_n hx hb dL_law_627 rfl (lv_at hl 1 rfl) ?_
  have cz := c_X7_unsee l G Z sd h7 (uq 1) (uq 2) (uq 3) (uq 4) (uq 5) (uq 6) (uq 7) (uq 8) (uq 9) (uq 10) (uq 11)
  refine k_calli (kRunV (As := []) (rest := [.int r1]) kx cz q_922 q_919 q_36 q_920 q_921 nX7_unsee ⟨Nat.le_of_ble_eq_true rfl, Nat.le_of_ble_eq_true rfl⟩ hK hP1 hD1 (kPm_skipB (kPm_keep (kPm_none _))).ctx 0 7 rfl rfl rfl rfl hl.1 (Nat.le_of_ble_eq_true rfl) dL_law_628 hf) hP1 hD1 hS1 hA (kPm_skipB (kPm_keep (kPm_none _))).ctx (fun _ => rfl) (fun r2 u2 H2 locs2 hw2 hP2 hD2 hS2 => ?_)
  have er2 := hw2
  have hP2 : va_P G.1 vwCl (cAll G n9 d sd h0 t0 t1 b0 s0 i0 e0 e1 e2 e3 aN aT aS0 aS1 pi aB L sg ik 0 tk en mo gN gT gS0 gS1 gB ++ mAll G (upd (upd Z 0 0) 13 0) sd h7 uq tx rp re pg tr bk kp jk sa se sm) H2 := hP2
  have hD2 : va_D A (cAll G n9 d sd h0 t0 t1 b0 s0 i0 e0 e1 e2 e3 aN aT aS0 aS1 pi aB L sg ik 0 tk en mo gN gT gS0 gS1 gB ++ mAll G (upd (upd Z 0 0) 13 0) sd h7 uq tx rp re pg tr bk kp jk sa se sm) := hD2
  refine lv_icmp_eq (tgt := 903) hx hb dL_law_631 (by decide) (fun _ => next _ _ ⟨_, _, _, _, _, _, _, _, _, _, _, _, _, _, _, _, _, _, _, _, _, _, _, _, _, _, _, hR1, hP2, hD2⟩ hS2) (fun c9 => absurd ((show r1 = _ from er1).trans (ea.trans (show r2 = _ from er2).symm)) c9)
set_option maxHeartbeats 4000000 in
set_option maxRecDepth 100000 in
theorem lw_which (kx : kX p s m args meth c cL_law 4 rr RL) (hK : kK G s) (hX : va_X b n0 xs s s.heap) (hbl : b < s.heap.size) (hbA : ¬ A b) (hA : ∀ q, s.heap.size ≤ q → A q) (hf : cells ≤ room_1.cells ∧ slots ≤ room_1.slots) (hS : va_S A s.heap H locs) (hI : I + 4 ≤ n0) (hn : n0 ≤ 2048) (hl : lv_has ls 4 [(3, .int (nI I)), (2, .ref h7), (1, .ref h0), (0, .ref b)]) (hs : lwS G n9 A h0 t0 t1 b0 s0 i0 e0 e1 e2 e3 aN aT aS0 aS1 aB h7 uq H) (next : ∀ (H1 : Heap) (locs1 : List Loc), lwS G n9 A h0 t0 t1 b0 s0 i0 e0 e1 e2 e3 aN aT aS0 aS1 aB h7 uq H1 → va_S A s.heap H1 locs1 → W p l e room_1 s m args below meth c H1 locs1 cells slots Qq (F0 m 903 ls [])) : W p l e room_1 s m args below meth c H locs cells slots Qq (F0 m 636 ls []) := by
  have hx := kx.1
  have hb := kx.2.1
  obtain ⟨d, sd, pi, L, sg, ik, z, tk, en, mo, gN, gT, gS0, gS1, gB, Z, tx, rp, re, pg, tr, bk, kp, jk, sa, se, sm, hR, hP, hD⟩ := hs
  obtain ⟨n14, bd, cL, ez, ⟨f1, f2, f3⟩, hw, hB, htx, hk, hv⟩ := id hR
  obtain ⟨ea, hR1⟩ := st_which hR gT tr
  refine lv_aload_n hx hb dL_law_636 rfl (lv_at hl 2 rfl) ?_
  refine k_calli (kRunV (As := []) (rest := []) kx (c_X6_which l G (nI d) sd h0 t0 aN aT b0 s0 i0 e0 gN gT z tk en mo e1 e2 e3 hw.2.2.2.2.2.1 ez) q_574 q_571 q_29 q_572 q_573 nX6_which ⟨Nat.le_of_ble_eq_true rfl, Nat.le_of_ble_eq_true rfl⟩ hK hP hD (kPm_left (kPm_app (kPm_keep (kPm_skip (kPm_skip (kPm_skip (kPm_skip (kPm_skip (kPm_keep (kPm_keep (kPm_keep (kPm_keep (kPm_none _))))))))))) (kPm_keepB (kPm_left (kPm_all _))))).ctx 0 6 rfl rfl rfl rfl hl.1 (Nat.le_of_ble_eq_true rfl) dL_law_637 hf) hP hD hS hA (kPm_left (kPm_app (kPm_keep (kPm_skip (kPm_skip (kPm_skip (kPm_skip (kPm_skip (kPm_keep (kPm_keep (kPm_keep (kPm_keep (kPm_none _))))))))))) (kPm_keepB (kPm_left (kPm_all _))))).ctx (fun _ => rfl) (fun r1 u1 H1 locs1 hw1 hP1 hD1 hS1 => ?_)
  obtain ⟨gT6, rfl⟩ : ∃ w, w = u1 := ⟨_, rfl⟩
  obtain ⟨er1, wgT6⟩ := hw1
  have hP1 : va_P G.1 vwCl (cAll G n9 d sd h0 t0 t1 b0 s0 i0 e0 e1 e2 e3 aN aT aS0 aS1 pi aB L sg ik z tk en mo gN gT6 gS0 gS1 gB ++ mAll G Z sd h7 uq tx rp re pg tr bk kp jk sa se sm) H1 := hP1
  have hD1 : va_D A (cAll G n9 d sd h0 t0 t1 b0 s0 i0 e0 e1 e2 e3 aN aT aS0 aS1 pi aB L sg ik z tk en mo gN gT6 gS0 gS1 gB ++ mAll G Z sd h7 uq tx rp re pg tr bk kp jk sa se sm) := hD1
  refine lv_aload_n hx hb dL_law_640 rfl (lv_at hl 1 rfl) ?_
  have cz := c_X7_which l G Z z sd h7 (uq 1) (uq 2) (uq 3) (uq 4) (uq 5) (uq 6) (uq 7) (uq 8) (uq 9) (uq 10) (uq 11) pg tr sa se sm ez (fun i hi => by rw [(hv i hi).2.1]; exact (hv i hi).2.2.2.1)
  rw [kupd_same f3] at cz
  try rw [kupd_same f3] at hR1
  try rw [kupd_same f3] at ea
  refine k_calli (kRunV (As := []) (rest := [.int r1]) kx cz q_926 q_923 q_36 q_924 q_925 nX7_which ⟨Nat.le_of_ble_eq_true rfl, Nat.le_of_ble_eq_true rfl⟩ hK hP1 hD1 (kPm_skipB (kPm_keep (kPm_skip (kPm_skip (kPm_skip (kPm_keep (kPm_keep (kPm_skip (kPm_skip (kPm_skip (kPm_keep (kPm_keep (kPm_keep (kPm_none _)))))))))))))).ctx 0 7 rfl rfl rfl rfl hl.1 (Nat.le_of_ble_eq_true rfl) dL_law_641 hf) hP1 hD1 hS1 hA (kPm_skipB (kPm_keep (kPm_skip (kPm_skip (kPm_skip (kPm_keep (kPm_keep (kPm_skip (kPm_skip (kPm_skip (kPm_keep (kPm_keep (kPm_keep (kPm_none _)))))))))))))).ctx (fun _ => rfl) (fun r2 u2 H2 locs2 hw2 hP2 hD2 hS2 => ?_)
  obtain ⟨Z7, tr7⟩ := u2
  obtain ⟨er2, wZ7, wtr7⟩ := hw2
  rw [← show _ = _ from wZ7] at hR1
  have hP2 : va_P G.1 vwCl (cAll G n9 d sd h0 t0 t1 b0 s0 i0 e0 e1 e2 e3 aN aT aS0 aS1 pi aB L sg ik z tk en mo gN gT6 gS0 gS1 gB ++ mAll G Z7 sd h7 uq tx rp re pg tr7 bk kp jk sa se sm) H2 := hP2
  have hD2 : va_D A (cAll G n9 d sd h0 t0 t1 b0 s0 i0 e0 e1 e2 e3 aN aT aS0 aS1 pi aB L sg ik z tk en mo gN gT6 gS0 gS1 gB ++ mAll G Z7 sd h7 uq tx rp re pg tr7 bk kp jk sa se sm) := hD2
  refine lv_icmp_eq (tgt := 903) hx hb dL_law_644 (by decide) (fun _ => next _ _ ⟨_, _, _, _, _, _, _, _, _, _, _, _, _, _, _, _, _, _, _, _, _, _, _, _, _, _, _, hR1, hP2, hD2⟩ hS2) (fun c9 => absurd ((show r1 = _ from er1).trans (ea.trans (show r2 = _ from er2).symm)) c9)
set_option maxHeartbeats 4000000 in
set_option maxRecDepth 100000 in
theorem lw_count (kx : kX p s m args meth c cL_law 4 rr RL) (hK : kK G s) (hX : va_X b n0 xs s s.heap) (hbl : b < s.heap.size) (hbA : ¬ A b) (hA : ∀ q, s.heap.size ≤ q → A q) (hf : cells ≤ room_1.cells ∧ slots ≤ room_1.slots) (hS : va_S A s.heap H locs) (hI : I + 4 ≤ n0) (hn : n0 ≤ 2048) (hl : lv_has ls 4 [(3, .int (nI I)), (2, .ref h7), (1, .ref h0), (0, .ref b)]) (hs : lwS G n9 A h0 t0 t1 b0 s0 i0 e0 e1 e2 e3 aN aT aS0 aS1 aB h7 uq H) (next : ∀ (H1 : Heap) (locs1 : List Loc), lwS G n9 A h0 t0 t1 b0 s0 i0 e0 e1 e2 e3 aN aT aS0 aS1 aB h7 uq H1 → va_S A s.heap H1 locs1 → W p l e room_1 s m args below meth c H1 locs1 cells slots Qq (F0 m 903 ls [])) : W p l e room_1 s m args below meth c H locs cells slots Qq (F0 m 880 ls []) := by
  have hx := kx.1
  have hb := kx.2.1
  obtain ⟨d, sd, pi, L, sg, ik, z, tk, en, mo, gN, gT, gS0, gS1, gB, Z, tx, rp, re, pg, tr, bk, kp, jk, sa, se, sm, hR, hP, hD⟩ := hs
  obtain ⟨p0, g0⟩ : ∃ v, xs (I + 1) = v := ⟨_, rfl⟩
  obtain ⟨n14, bd, cL, ez, ⟨f1, f2, f3⟩, hw, hB, htx, hk, hv⟩ := id hR
  obtain ⟨ea, hR1⟩ := st_count hR p0
  refine lv_aload_n hx hb dL_law_880 rfl (lv_at hl 2 rfl) ?_
  refine lw_arg kx hX hbl hbA hS hI hn hl (k := 1) (by decide) rfl g0 dL_law_881 dL_law_882 dL_law_883 dL_law_884 dL_law_885 ?_
  refine k_calli (kRunV (As := [.int p0]) (rest := []) kx (c_X6_count l G (nI d) sd h0 t0 aN aT b0 s0 i0 e0 L sg t1 z tk en mo e1 e2 e3 gN p0) q_656 q_653 q_29 q_654 q_655 nX6_count ⟨Nat.le_of_ble_eq_true rfl, Nat.le_of_ble_eq_true rfl⟩ hK hP hD (kPm_left (kPm_app (kPm_keep (kPm_keep (kPm_keep (kPm_skip (kPm_skip (kPm_skip (kPm_keep (kPm_keep (kPm_keep (kPm_keep (kPm_none _))))))))))) (kPm_left (kPm_all _)))).ctx 0 6 rfl rfl rfl rfl hl.1 (Nat.le_of_ble_eq_true rfl) dL_law_886 hf) hP hD hS hA (kPm_left (kPm_app (kPm_keep (kPm_keep (kPm_keep (kPm_skip (kPm_skip (kPm_skip (kPm_keep (kPm_keep (kPm_keep (kPm_keep (kPm_none _))))))))))) (kPm_left (kPm_all _)))).ctx (fun _ => rfl) (fun r1 u1 H1 locs1 hw1 hP1 hD1 hS1 => ?_)
  have er1 := hw1
  have hP1 : va_P G.1 vwCl (cAll G n9 d sd h0 t0 t1 b0 s0 i0 e0 e1 e2 e3 aN aT aS0 aS1 pi aB L sg ik z tk en mo gN gT gS0 gS1 gB ++ mAll G Z sd h7 uq tx rp re pg tr bk kp jk sa se sm) H1 := hP1
  have hD1 : va_D A (cAll G n9 d sd h0 t0 t1 b0 s0 i0 e0 e1 e2 e3 aN aT aS0 aS1 pi aB L sg ik z tk en mo gN gT gS0 gS1 gB ++ mAll G Z sd h7 uq tx rp re pg tr bk kp jk sa se sm) := hD1
  refine lv_aload_n hx hb dL_law_889 rfl (lv_at hl 1 rfl) ?_
  refine lw_arg kx hX hbl hbA hS1 hI hn hl (k := 1) (by decide) rfl g0 dL_law_890 dL_law_891 dL_law_892 dL_law_893 dL_law_894 ?_
  have cz := c_X7_count l G Z sd h7 (uq 1) (uq 2) (uq 3) (uq 4) (uq 5) (uq 6) (uq 7) (uq 8) (uq 9) (uq 10) (uq 11) pg p0
  refine k_calli (kRunV (As := [.int p0]) (rest := [.int r1]) kx cz q_981 q_978 q_36 q_979 q_980 nX7_count ⟨Nat.le_of_ble_eq_true rfl, Nat.le_of_ble_eq_true rfl⟩ hK hP1 hD1 (kPm_skipB (kPm_keep (kPm_skip (kPm_skip (kPm_skip (kPm_keep (kPm_none _))))))).ctx 0 7 rfl rfl rfl rfl hl.1 (Nat.le_of_ble_eq_true rfl) dL_law_895 hf) hP1 hD1 hS1 hA (kPm_skipB (kPm_keep (kPm_skip (kPm_skip (kPm_skip (kPm_keep (kPm_none _))))))).ctx (fun _ => rfl) (fun r2 u2 H2 locs2 hw2 hP2 hD2 hS2 => ?_)
  obtain ⟨Z7, rfl⟩ : ∃ w, w = u2 := ⟨_, rfl⟩
  obtain ⟨er2, wZ7⟩ := hw2
  rw [← show _ = _ from wZ7] at hR1
  have hP2 : va_P G.1 vwCl (cAll G n9 d sd h0 t0 t1 b0 s0 i0 e0 e1 e2 e3 aN aT aS0 aS1 pi aB L sg ik z tk en mo gN gT gS0 gS1 gB ++ mAll G Z7 sd h7 uq tx rp re pg tr bk kp jk sa se sm) H2 := hP2
  have hD2 : va_D A (cAll G n9 d sd h0 t0 t1 b0 s0 i0 e0 e1 e2 e3 aN aT aS0 aS1 pi aB L sg ik z tk en mo gN gT gS0 gS1 gB ++ mAll G Z7 sd h7 uq tx rp re pg tr bk kp jk sa se sm) := hD2
  refine lv_icmp_eq (tgt := 903) hx hb dL_law_898 (by decide) (fun _ => next _ _ ⟨_, _, _, _, _, _, _, _, _, _, _, _, _, _, _, _, _, _, _, _, _, _, _, _, _, _, _, hR1, hP2, hD2⟩ hS2) (fun c9 => absurd ((show r1 = _ from er1).trans (ea.trans (show r2 = _ from er2).symm)) c9)
end LW
