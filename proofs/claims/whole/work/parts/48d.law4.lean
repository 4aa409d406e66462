section LW
variable {p : Program} {l : Launch} {e : Env} {s : State} {m : MethodId} {args : Array Value} {below : List Frame} {meth : Method} {c : Code} {H : Heap} {locs : List Loc} {cells slots : Nat} {Qq : State → Prop} {rr : Option FieldType}
variable {ls : Array Slot} {rest : List Value} {G : kG} {A : Nat → Prop} {b n0 I n9 : Nat} {xs : Nat → Int32} {h0 t0 t1 b0 s0 i0 e0 e1 e2 e3 : Nat} {aN aT aS0 aS1 : Nat → Nat} {aB : Nat → Nat → Nat} {h7 : Nat} {uq : Nat → Nat}
set_option maxHeartbeats 4000000 in
set_option maxRecDepth 100000 in
theorem lw_judge (kx : kX p s m args meth c cL_law 4 rr RL) (hK : kK G s) (hX : va_X b n0 xs s s.heap) (hbl : b < s.heap.size) (hbA : ¬ A b) (hA : ∀ q, s.heap.size ≤ q → A q) (hf : cells ≤ room_1.cells ∧ slots ≤ room_1.slots) (hS : va_S A s.heap H locs) (hI : I + 4 ≤ n0) (hn : n0 ≤ 2048) (hl : lv_has ls 4 [(3, .int (nI I)), (2, .ref h7), (1, .ref h0), (0, .ref b)]) (hs : lwS G n9 A h0 t0 t1 b0 s0 i0 e0 e1 e2 e3 aN aT aS0 aS1 aB h7 uq H) (next : ∀ (H1 : Heap) (locs1 : List Loc), lwS G n9 A h0 t0 t1 b0 s0 i0 e0 e1 e2 e3 aN aT aS0 aS1 aB h7 uq H1 → va_S A s.heap H1 locs1 → W p l e room_1 s m args below meth c H1 locs1 cells slots Qq (F0 m 903 ls [])) : W p l e room_1 s m args below meth c H locs cells slots Qq (F0 m 517 ls []) := by
  have hx := kx.1
  have hb := kx.2.1
  obtain ⟨d, sd, pi, L, sg, ik, z, tk, en, mo, gN, gT, gS0, gS1, gB, Z, tx, rp, re, pg, tr, bk, kp, jk, sa, se, sm, hR, hP, hD⟩ := hs
  obtain ⟨p0, g0⟩ : ∃ v, xs (I + 1) = v := ⟨_, rfl⟩
  obtain ⟨lg, gl⟩ : ∃ v, lwL (xs (I + 2)) (xs (I + 3)) = v := ⟨_, rfl⟩
  by_cases c1 : p0 = 1
  · subst c1
    obtain ⟨n14, bd, cL, ez, ⟨f1, f2, f3⟩, hw, hB, htx, hk, hv⟩ := id hR
    obtain ⟨ea, hR1⟩ := st_judge_1 hR tr lg
    refine lv_aload_n hx hb dL_law_517 rfl (lv_at hl 2 rfl) ?_
    refine lw_arg kx hX hbl hbA hS hI hn hl (k := 1) (by decide) rfl g0 dL_law_518 dL_law_519 dL_law_520 dL_law_521 dL_law_522 ?_
    refine lw_long kx hX hbl hbA hS hI hn hl (k := 2) (k2 := 3) (by decide) (by decide) rfl rfl gl dL_law_523 dL_law_524 dL_law_525 dL_law_526 dL_law_527 dL_law_528 dL_law_529 dL_law_531 dL_law_532 dL_law_533 dL_law_534 dL_law_535 dL_law_536 dL_law_537 dL_law_538 dL_law_541 dL_law_542 ?_
    refine k_calli (kRunV (As := [.int 1, .long lg]) (rest := []) kx (c_X6_judge l G (nI d) sd h0 t0 aN aT b0 s0 i0 e0 gN gT 1 lg hw.2.2.2.2.2.1) q_542 q_539 q_29 q_540 q_541 nX6_judge ⟨Nat.le_of_ble_eq_true rfl, Nat.le_of_ble_eq_true rfl⟩ hK hP hD (kPm_left (kPm_app (kPm_keep (kPm_none _)) (kPm_keepB (kPm_left (kPm_all _))))).ctx 0 6 rfl rfl rfl rfl hl.1 (Nat.le_of_ble_eq_true rfl) dL_law_543 hf) hP hD hS hA (kPm_left (kPm_app (kPm_keep (kPm_none _)) (kPm_keepB (kPm_left (kPm_all _))))).ctx (fun _ => rfl) (fun r1 u1 H1 locs1 hw1 hP1 hD1 hS1 => ?_)
    obtain ⟨gT6, rfl⟩ : ∃ w, w = u1 := ⟨_, rfl⟩
    obtain ⟨er1, wgT6⟩ := hw1
    have hP1 : va_P G.1 vwCl (cAll G n9 d sd h0 t0 t1 b0 s0 i0 e0 e1 e2 e3 aN aT aS0 aS1 pi aB L sg ik z tk en mo gN gT6 gS0 gS1 gB ++ mAll G Z sd h7 uq tx rp re pg tr bk kp jk sa se sm) H1 := hP1
    have hD1 : va_D A (cAll G n9 d sd h0 t0 t1 b0 s0 i0 e0 e1 e2 e3 aN aT aS0 aS1 pi aB L sg ik z tk en mo gN gT6 gS0 gS1 gB ++ mAll G Z sd h7 uq tx rp re pg tr bk kp jk sa se sm) := hD1
    refine lv_aload_n hx hb dL_law_546 rfl (lv_at hl 1 rfl) ?_
    refine lw_arg kx hX hbl hbA hS1 hI hn hl (k := 1) (by decide) rfl g0 dL_law_547 dL_law_548 dL_law_549 dL_law_550 dL_law_551 ?_
    refine lw_long kx hX hbl hbA hS1 hI hn hl (k := 2) (k2 := 3) (by decide) (by decide) rfl rfl gl dL_law_552 dL_law_553 dL_law_554 dL_law_555 dL_law_556 dL_law_557 dL_law_558 dL_law_560 dL_law_561 dL_law_562 dL_law_563 dL_law_564 dL_law_565 dL_law_566 dL_law_567 dL_law_570 dL_law_571 ?_
    have cz := c_X7_judge_1 l G Z sd h7 (uq 1) (uq 2) (uq 3) (uq 4) (uq 5) (uq 6) (uq 7) (uq 8) (uq 9) (uq 10) (uq 11) pg tr lg
    refine k_calli (kRunV (As := [.int 1, .long lg]) (rest := [.int r1]) kx cz q_906 q_903 q_36 q_904 q_905 nX7_judge ⟨Nat.le_of_ble_eq_true rfl, Nat.le_of_ble_eq_true rfl⟩ hK hP1 hD1 (kPm_skipB (kPm_keep (kPm_skip (kPm_skip (kPm_skip (kPm_keep (kPm_keep (kPm_none _)))))))).ctx 0 7 rfl rfl rfl rfl hl.1 (Nat.le_of_ble_eq_true rfl) dL_law_572 hf) hP1 hD1 hS1 hA (kPm_skipB (kPm_keep (kPm_skip (kPm_skip (kPm_skip (kPm_keep (kPm_keep (kPm_none _)))))))).ctx (fun _ => rfl) (fun r2 u2 H2 locs2 hw2 hP2 hD2 hS2 => ?_)
    obtain ⟨Z7, tr7⟩ := u2
    obtain ⟨er2, wZ7, wtr7⟩ := hw2
    rw [← show _ = _ from wZ7] at hR1
    have hP2 : va_P G.1 vwCl (cAll G n9 d sd h0 t0 t1 b0 s0 i0 e0 e1 e2 e3 aN aT aS0 aS1 pi aB L sg ik z tk en mo gN gT6 gS0 gS1 gB ++ mAll G Z7 sd h7 uq tx rp re pg tr7 bk kp jk sa se sm) H2 := hP2
    have hD2 : va_D A (cAll G n9 d sd h0 t0 t1 b0 s0 i0 e0 e1 e2 e3 aN aT aS0 aS1 pi aB L sg ik z tk en mo gN gT6 gS0 gS1 gB ++ mAll G Z7 sd h7 uq tx rp re pg tr7 bk kp jk sa se sm) := hD2
    refine lv_icmp_eq (tgt := 903) hx hb dL_law_575 (by decide) (fun _ => next _ _ ⟨_, _, _, _, _, _, _, _, _, _, _, _, _, _, _, _, _, _, _, _, _, _, _, _, _, _, _, hR1, hP2, hD2⟩ hS2) (fun c9 => absurd ((show r1 = _ from er1).trans (ea.trans (show r2 = _ from er2).symm)) c9)
  · skip
    by_cases c2 : p0 = 2
    · subst c2
      obtain ⟨n14, bd, cL, ez, ⟨f1, f2, f3⟩, hw, hB, htx, hk, hv⟩ := id hR
      obtain ⟨ea, hR1⟩ := st_judge_2 hR tr lg
      refine lv_aload_n hx hb dL_law_517 rfl (lv_at hl 2 rfl) ?_
      refine lw_arg kx hX hbl hbA hS hI hn hl (k := 1) (by decide) rfl g0 dL_law_518 dL_law_519 dL_law_520 dL_law_521 dL_law_522 ?_
      refine lw_long kx hX hbl hbA hS hI hn hl (k := 2) (k2 := 3) (by decide) (by decide) rfl rfl gl dL_law_523 dL_law_524 dL_law_525 dL_law_526 dL_law_527 dL_law_528 dL_law_529 dL_law_531 dL_law_532 dL_law_533 dL_law_534 dL_law_535 dL_law_536 dL_law_537 dL_law_538 dL_law_541 dL_law_542 ?_
      refine k_calli (kRunV (As := [.int 2, .long lg]) (rest := []) kx (c_X6_judge l G (nI d) sd h0 t0 aN aT b0 s0 i0 e0 gN gT 2 lg hw.2.2.2.2.2.1) q_542 q_539 q_29 q_540 q_541 nX6_judge ⟨Nat.le_of_ble_eq_true rfl, Nat.le_of_ble_eq_true rfl⟩ hK hP hD (kPm_left (kPm_app (kPm_keep (kPm_none _)) (kPm_keepB (kPm_left (kPm_all _))))).ctx 0 6 rfl rfl rfl rfl hl.1 (Nat.le_of_ble_eq_true rfl) dL_law_543 hf) hP hD hS hA (kPm_left (kPm_app (kPm_keep (kPm_none _)) (kPm_keepB (kPm_left (kPm_all _))))).ctx (fun _ => rfl) (fun r1 u1 H1 locs1 hw1 hP1 hD1 hS1 => ?_)
      obtain ⟨gT6, rfl⟩ : ∃ w, w = u1 := ⟨_, rfl⟩
      obtain ⟨er1, wgT6⟩ := hw1
      have hP1 : va_P G.1 vwCl (cAll G n9 d sd h0 t0 t1 b0 s0 i0 e0 e1 e2 e3 aN aT aS0 aS1 pi aB L sg ik z tk en mo gN gT6 gS0 gS1 gB ++ mAll G Z sd h7 uq tx rp re pg tr bk kp jk sa se sm) H1 := hP1
      have hD1 : va_D A (cAll G n9 d sd h0 t0 t1 b0 s0 i0 e0 e1 e2 e3 aN aT aS0 aS1 pi aB L sg ik z tk en mo gN gT6 gS0 gS1 gB ++ mAll G Z sd h7 uq tx rp re pg tr bk kp jk sa se sm) := hD1
      refine lv_aload_n hx hb dL_law_546 rfl (lv_at hl 1 rfl) ?_
      refine lw_arg kx hX hbl hbA hS1 hI hn hl (k := 1) (by decide) rfl g0 dL_law_547 dL_law_548 dL_law_549 dL_law_550 dL_law_551 ?_
      refine lw_long kx hX hbl hbA hS1 hI hn hl (k := 2) (k2 := 3) (by decide) (by decide) rfl rfl gl dL_law_552 dL_law_553 dL_law_554 dL_law_555 dL_law_556 dL_law_557 dL_law_558 dL_law_560 dL_law_561 dL_law_562 dL_law_563 dL_law_564 dL_law_565 dL_law_566 dL_law_567 dL_law_570 dL_law_571 ?_
      have cz := c_X7_judge_2 l G Z sd h7 (uq 1) (uq 2) (uq 3) (uq 4) (uq 5) (uq 6) (uq 7) (uq 8) (uq 9) (uq 10) (uq 11) pg tr lg
      refine k_calli (kRunV (As := [.int 2, .long lg]) (rest := [.int r1]) kx cz q_906 q_903 q_36 q_904 q_905 nX7_judge ⟨Nat.le_of_ble_eq_true rfl, Nat.le_of_ble_eq_true rfl⟩ hK hP1 hD1 (kPm_skipB (kPm_keep (kPm_skip (kPm_skip (kPm_skip (kPm_keep (kPm_keep (kPm_none _)))))))).ctx 0 7 rfl rfl rfl rfl hl.1 (Nat.le_of_ble_eq_true rfl) dL_law_572 hf) hP1 hD1 hS1 hA (kPm_skipB (kPm_keep (kPm_skip (kPm_skip (kPm_skip (kPm_keep (kPm_keep (kPm_none _)))))))).ctx (fun _ => rfl) (fun r2 u2 H2 locs2 hw2 hP2 hD2 hS2 => ?_)
      obtain ⟨Z7, tr7⟩ := u2
      obtain ⟨er2, wZ7, wtr7⟩ := hw2
      rw [← show _ = _ from wZ7] at hR1
      have hP2 : va_P G.1 vwCl (cAll G n9 d sd h0 t0 t1 b0 s0 i0 e0 e1 e2 e3 aN aT aS0 aS1 pi aB L sg ik z tk en mo gN gT6 gS0 gS1 gB ++ mAll G Z7 sd h7 uq tx rp re pg tr7 bk kp jk sa se sm) H2 := hP2
      have hD2 : va_D A (cAll G n9 d sd h0 t0 t1 b0 s0 i0 e0 e1 e2 e3 aN aT aS0 aS1 pi aB L sg ik z tk en mo gN gT6 gS0 gS1 gB ++ mAll G Z7 sd h7 uq tx rp re pg tr7 bk kp jk sa se sm) := hD2
      refine lv_icmp_eq (tgt := 903) hx hb dL_law_575 (by decide) (fun _ => next _ _ ⟨_, _, _, _, _, _, _, _, _, _, _, _, _, _, _, _, _, _, _, _, _, _, _, _, _, _, _, hR1, hP2, hD2⟩ hS2) (fun c9 => absurd ((show r1 = _ from er1).trans (ea.trans (show r2 = _ from er2).symm)) c9)
    · skip
      by_cases c3 : p0 = 3
      · subst c3
        obtain ⟨n14, bd, cL, ez, ⟨f1, f2, f3⟩, hw, hB, htx, hk, hv⟩ := id hR
        obtain ⟨ea, hR1⟩ := st_judge_3 hR tr lg
        refine lv_aload_n hx hb dL_law_517 rfl (lv_at hl 2 rfl) ?_
        refine lw_arg kx hX hbl hbA hS hI hn hl (k := 1) (by decide) rfl g0 dL_law_518 dL_law_519 dL_law_520 dL_law_521 dL_law_522 ?_
        refine lw_long kx hX hbl hbA hS hI hn hl (k := 2) (k2 := 3) (by decide) (by decide) rfl rfl gl dL_law_523 dL_law_524 dL_law_525 dL_law_526 dL_law_527 dL_law_528 dL_law_529 dL_law_531 dL_law_532 dL_law_533 dL_law_534 dL_law_535 dL_law_536 dL_law_537 dL_law_538 dL_law_541 dL_law_542 ?_
        refine k_calli (kRunV (As := [.int 3, .long lg]) (rest := []) kx (c_X6_judge l G (nI d) sd h0 t0 aN aT b0 s0 i0 e0 gN gT 3 lg hw.2.2.2.2.2.1) q_542 q_539 q_29 q_540 q_541 nX6_judge ⟨Nat.le_of_ble_eq_true rfl, Nat.le_of_ble_eq_true rfl⟩ hK hP hD (kPm_left (kPm_app (kPm_keep (kPm_none _)) (kPm_keepB (kPm_left (kPm_all _))))).ctx 0 6 rfl rfl rfl rfl hl.1 (Nat.le_of_ble_eq_true rfl) dL_law_543 hf) hP hD hS hA (kPm_left (kPm_app (kPm_keep (kPm_none _)) (kPm_keepB (kPm_left (kPm_all _))))).ctx (fun _ => rfl) (fun r1 u1 H1 locs1 hw1 hP1 hD1 hS1 => ?_)
        obtain ⟨gT6, rfl⟩ : ∃ w, w = u1 := ⟨_, rfl⟩
        obtain ⟨er1, wgT6⟩ := hw1
        have hP1 : va_P G.1 vwCl (cAll G n9 d sd h0 t0 t1 b0 s0 i0 e0 e1 e2 e3 aN aT aS0 aS1 pi aB L sg ik z tk en mo gN gT6 gS0 gS1 gB ++ mAll G Z sd h7 uq tx rp re pg tr bk kp jk sa se sm) H1 := hP1
        have hD1 : va_D A (cAll G n9 d sd h0 t0 t1 b0 s0 i0 e0 e1 e2 e3 aN aT aS0 aS1 pi aB L sg ik z tk en mo gN gT6 gS0 gS1 gB ++ mAll G Z sd h7 uq tx rp re pg tr bk kp jk sa se sm) := hD1
        refine lv_aload_n hx hb dL_law_546 rfl (lv_at hl 1 rfl) ?_
        refine lw_arg kx hX hbl hbA hS1 hI hn hl (k := 1) (by decide) rfl g0 dL_law_547 dL_law_548 dL_law_549 dL_law_550 dL_law_551 ?_
        refine lw_long kx hX hbl hbA hS1 hI hn hl (k := 2) (k2 := 3) (by decide) (by decide) rfl rfl gl dL_law_552 dL_law_553 dL_law_554 dL_law_555 dL_law_556 dL_law_557 dL_law_558 dL_law_560 dL_law_561 dL_law_562 dL_law_563 dL_law_564 dL_law_565 dL_law_566 dL_law_567 dL_law_570 dL_law_571 ?_
        have cz := c_X7_judge_3 l G Z sd h7 (uq 1) (uq 2) (uq 3) (uq 4) (uq 5) (uq 6) (uq 7) (uq 8) (uq 9) (uq 10) (uq 11) pg tr lg
        refine k_calli (kRunV (As := [.int 3, .long lg]) (rest := [.int r1]) kx cz q_906 q_903 q_36 q_904 q_905 nX7_judge ⟨Nat.le_of_ble_eq_true rfl, Nat.le_of_ble_eq_true rfl⟩ hK hP1 hD1 (kPm_skipB (kPm_keep (kPm_skip (kPm_skip (kPm_skip (kPm_keep (kPm_keep (kPm_none _)))))))).ctx 0 7 rfl rfl rfl rfl hl.1 (Nat.le_of_ble_eq_true rfl) dL_law_572 hf) hP1 hD1 hS1 hA (kPm_skipB (kPm_keep (kPm_skip (kPm_skip (kPm_skip (kPm_keep (kPm_keep (kPm_none _)))))))).ctx (fun _ => rfl) (fun r2 u2 H2 locs2 hw2 hP2 hD2 hS2 => ?_)
        obtain ⟨Z7, tr7⟩ := u2
        obtain ⟨er2, wZ7, wtr7⟩ := hw2
        rw [← show _ = _ from wZ7] at hR1
        have hP2 : va_P G.1 vwCl (cAll G n9 d sd h0 t0 t1 b0 s0 i0 e0 e1 e2 e3 aN aT aS0 aS1 pi aB L sg ik z tk en mo gN gT6 gS0 gS1 gB ++ mAll G Z7 sd h7 uq tx rp re pg tr7 bk kp jk sa se sm) H2 := hP2
        have hD2 : va_D A (cAll G n9 d sd h0 t0 t1 b0 s0 i0 e0 e1 e2 e3 aN aT aS0 aS1 pi aB L sg ik z tk en mo gN gT6 gS0 gS1 gB ++ mAll G Z7 sd h7 uq tx rp re pg tr7 bk kp jk sa se sm) := hD2
        refine lv_icmp_eq (tgt := 903) hx hb dL_law_575 (by decide) (fun _ => next _ _ ⟨_, _, _, _, _, _, _, _, _, _, _, _, _, _, _, _, _, _, _, _, _, _, _, _, _, _, _, hR1, hP2, hD2⟩ hS2) (fun c9 => absurd ((show r1 = _ from er1).trans (ea.trans (show r2 = _ from er2).symm)) c9)
      · skip
        by_cases c4 : p0 = 4
        · subst c4
          obtain ⟨n14, bd, cL, ez, ⟨f1, f2, f3⟩, hw, hB, htx, hk, hv⟩ := id hR
          obtain ⟨ea, hR1⟩ := st_judge_4 hR tr lg
          refine lv_aload_n hx hb dL_law_517 rfl (lv_at hl 2 rfl) ?_
          refine lw_arg kx hX hbl hbA hS hI hn hl (k := 1) (by decide) rfl g0 dL_law_518 dL_law_519 dL_law_520 dL_law_521 dL_law_522 ?_
          refine lw_long kx hX hbl hbA hS hI hn hl (k := 2) (k2 := 3) (by decide) (by decide) rfl rfl gl dL_law_523 dL_law_524 dL_law_525 dL_law_526 dL_law_527 dL_law_528 dL_law_529 dL_law_531 dL_law_532 dL_law_533 dL_law_534 dL_law_535 dL_law_536 dL_law_537 dL_law_538 dL_law_541 dL_law_542 ?_
          refine k_calli (kRunV (As := [.int 4, .long lg]) (rest := []) kx (c_X6_judge l G (nI d) sd h0 t0 aN aT b0 s0 i0 e0 gN gT 4 lg hw.2.2.2.2.2.1) q_542 q_539 q_29 q_540 q_541 nX6_judge ⟨Nat.le_of_ble_eq_true rfl, Nat.le_of_ble_eq_true rfl⟩ hK hP hD (kPm_left (kPm_app (kPm_keep (kPm_none _)) (kPm_keepB (kPm_left (kPm_all _))))).ctx 0 6 rfl rfl rfl rfl hl.1 (Nat.le_of_ble_eq_true rfl) dL_law_543 hf) hP hD hS hA (kPm_left (kPm_app (kPm_keep (kPm_none _)) (kPm_keepB (kPm_left (kPm_all _))))).ctx (fun _ => rfl) (fun r1 u1 H1 locs1 hw1 hP1 hD1 hS1 => ?_)
          obtain ⟨gT6, rfl⟩ : ∃ w, w = u1 := ⟨_, rfl⟩
          obtain ⟨er1, wgT6⟩ := hw1
          have hP1 : va_P G.1 vwCl (cAll G n9 d sd h0 t0 t1 b0 s0 i0 e0 e1 e2 e3 aN aT aS0 aS1 pi aB L sg ik z tk en mo gN gT6 gS0 gS1 gB ++ mAll G Z sd h7 uq tx rp re pg tr bk kp jk sa se sm) H1 := hP1
          have hD1 : va_D A (cAll G n9 d sd h0 t0 t1 b0 s0 i0 e0 e1 e2 e3 aN aT aS0 aS1 pi aB L sg ik z tk en mo gN gT6 gS0 gS1 gB ++ mAll G Z sd h7 uq tx rp re pg tr bk kp jk sa se sm) := hD1
          refine lv_aload_n hx hb dL_law_546 rfl (lv_at hl 1 rfl) ?_
          refine lw_arg kx hX hbl hbA hS1 hI hn hl (k := 1) (by decide) rfl g0 dL_law_547 dL_law_548 dL_law_549 dL_law_550 dL_law_551 ?_
          refine lw_long kx hX hbl hbA hS1 hI hn hl (k := 2) (k2 := 3) (by decide) (by decide) rfl rfl gl dL_law_552 dL_law_553 dL_law_554 dL_law_555 dL_law_556 dL_law_557 dL_law_558 dL_law_560 dL_law_561 dL_law_562 dL_law_563 dL_law_564 dL_law_565 dL_law_566 dL_law_567 dL_law_570 dL_law_571 ?_
          have cz := c_X7_judge_4 l G Z sd h7 (uq 1) (uq 2) (uq 3) (uq 4) (uq 5) (uq 6) (uq 7) (uq 8) (uq 9) (uq 10) (uq 11) pg tr lg
          refine k_calli (kRunV (As := [.int 4, .long lg]) (rest := [.int r1]) kx cz q_906 q_903 q_36 q_904 q_905 nX7_judge ⟨Nat.le_of_ble_eq_true rfl, Nat.le_of_ble_eq_true rfl⟩ hK hP1 hD1 (kPm_skipB (kPm_keep (kPm_skip (kPm_skip (kPm_skip (kPm_keep (kPm_keep (kPm_none _)))))))).ctx 0 7 rfl rfl rfl rfl hl.1 (Nat.le_of_ble_eq_true rfl) dL_law_572 hf) hP1 hD1 hS1 hA (kPm_skipB (kPm_keep (kPm_skip (kPm_skip (kPm_skip (kPm_keep (kPm_keep (kPm_none _)))))))).ctx (fun _ => rfl) (fun r2 u2 H2 locs2 hw2 hP2 hD2 hS2 => ?_)
          obtain ⟨Z7, tr7⟩ := u2
          obtain ⟨er2, wZ7, wtr7⟩ := hw2
          rw [← show _ = _ from wZ7] at hR1
          have hP2 : va_P G.1 vwCl (cAll G n9 d sd h0 t0 t1 b0 s0 i0 e0 e1 e2 e3 aN aT aS0 aS1 pi aB L sg ik z tk en mo gN gT6 gS0 gS1 gB ++ mAll G Z7 sd h7 uq tx rp re pg tr7 bk kp jk sa se sm) H2 := hP2
          have hD2 : va_D A (cAll G n9 d sd h0 t0 t1 b0 s0 i0 e0 e1 e2 e3 aN aT aS0 aS1 pi aB L sg ik z tk en mo gN gT6 gS0 gS1 gB ++ mAll G Z7 sd h7 uq tx rp re pg tr7 bk kp jk sa se sm) := hD2
          refine lv_icmp_eq (tgt := 903) hx hb dL_law_575 (by decide) (fun _ => next _ _ ⟨_, _, _, _, _, _, _, _, _, _, _, _, _, _, _, _, _, _, _, _, _, _, _, _, _, _, _, hR1, hP2, hD2⟩ hS2) (fun c9 => absurd ((show r1 = _ from er1).trans (ea.trans (show r2 = _ from er2).symm)) c9)
        · skip
          have hx9 := kj4 c1 c2 c3 c4
          obtain ⟨n14, bd, cL, ez, ⟨f1, f2, f3⟩, hw, hB, htx, hk, hv⟩ := id hR
          obtain ⟨ea, hR1⟩ := st_judge_x hR p0 lg hx9
          refine lv_aload_n hx hb dL_law_517 rfl (lv_at hl 2 rfl) ?_
          refine lw_arg kx hX hbl hbA hS hI hn hl (k := 1) (by decide) rfl g0 dL_law_518 dL_law_519 dL_law_520 dL_law_521 dL_law_522 ?_
          refine lw_long kx hX hbl hbA hS hI hn hl (k := 2) (k2 := 3) (by decide) (by decide) rfl rfl gl dL_law_523 dL_law_524 dL_law_525 dL_law_526 dL_law_527 dL_law_528 dL_law_529 dL_law_531 dL_law_532 dL_law_533 dL_law_534 dL_law_535 dL_law_536 dL_law_537 dL_law_538 dL_law_541 dL_law_542 ?_
          refine k_calli (kRunV (As := [.int p0, .long lg]) (rest := []) kx (c_X6_judge l G (nI d) sd h0 t0 aN aT b0 s0 i0 e0 gN gT p0 lg hw.2.2.2.2.2.1) q_542 q_539 q_29 q_540 q_541 nX6_judge ⟨Nat.le_of_ble_eq_true rfl, Nat.le_of_ble_eq_true rfl⟩ hK hP hD (kPm_left (kPm_app (kPm_keep (kPm_none _)) (kPm_keepB (kPm_left (kPm_all _))))).ctx 0 6 rfl rfl rfl rfl hl.1 (Nat.le_of_ble_eq_true rfl) dL_law_543 hf) hP hD hS hA (kPm_left (kPm_app (kPm_keep (kPm_none _)) (kPm_keepB (kPm_left (kPm_all _))))).ctx (fun _ => rfl) (fun r1 u1 H1 locs1 hw1 hP1 hD1 hS1 => ?_)
          obtain ⟨gT6, rfl⟩ : ∃ w, w = u1 := ⟨_, rfl⟩
          obtain ⟨er1, wgT6⟩ := hw1
          have hP1 : va_P G.1 vwCl (cAll G n9 d sd h0 t0 t1 b0 s0 i0 e0 e1 e2 e3 aN aT aS0 aS1 pi aB L sg ik z tk en mo gN gT6 gS0 gS1 gB ++ mAll G Z sd h7 uq tx rp re pg tr bk kp jk sa se sm) H1 := hP1
          have hD1 : va_D A (cAll G n9 d sd h0 t0 t1 b0 s0 i0 e0 e1 e2 e3 aN aT aS0 aS1 pi aB L sg ik z tk en mo gN gT6 gS0 gS1 gB ++ mAll G Z sd h7 uq tx rp re pg tr bk kp jk sa se sm) := hD1
          refine lv_aload_n hx hb dL_law_546 rfl (lv_at hl 1 rfl) ?_
          refine lw_arg kx hX hbl hbA hS1 hI hn hl (k := 1) (by decide) rfl g0 dL_law_547 dL_law_548 dL_law_549 dL_law_550 dL_law_551 ?_
          refine lw_long kx hX hbl hbA hS1 hI hn hl (k := 2) (k2 := 3) (by decide) (by decide) rfl rfl gl dL_law_552 dL_law_553 dL_law_554 dL_law_555 dL_law_556 dL_law_557 dL_law_558 dL_law_560 dL_law_561 dL_law_562 dL_law_563 dL_law_564 dL_law_565 dL_law_566 dL_law_567 dL_law_570 dL_law_571 ?_
          have cz := c_X7_judge_x l G Z sd h7 (uq 1) (uq 2) (uq 3) (uq 4) (uq 5) (uq 6) (uq 7) (uq 8) (uq 9) (uq 10) (uq 11) p0 lg hx9
          refine k_calli (kRunV (As := [.int p0, .long lg]) (rest := [.int r1]) kx cz q_906 q_903 q_36 q_904 q_905 nX7_judge ⟨Nat.le_of_ble_eq_true rfl, Nat.le_of_ble_eq_true rfl⟩ hK hP1 hD1 (kPm_skipB (kPm_keep (kPm_none _))).ctx 0 7 rfl rfl rfl rfl hl.1 (Nat.le_of_ble_eq_true rfl) dL_law_572 hf) hP1 hD1 hS1 hA (kPm_skipB (kPm_keep (kPm_none _))).ctx (fun _ => rfl) (fun r2 u2 H2 locs2 hw2 hP2 hD2 hS2 => ?_)
          have er2 := hw2
          have hP2 : va_P G.1 vwCl (cAll G n9 d sd h0 t0 t1 b0 s0 i0 e0 e1 e2 e3 aN aT aS0 aS1 pi aB L sg ik z tk en mo gN gT6 gS0 gS1 gB ++ mAll G (upd Z 0 0) sd h7 uq tx rp re pg tr bk kp jk sa se sm) H2 := hP2
          have hD2 : va_D A (cAll G n9 d sd h0 t0 t1 b0 s0 i0 e0 e1 e2 e3 aN aT aS0 aS1 pi aB L sg ik z tk en mo gN gT6 gS0 gS1 gB ++ mAll G (upd Z 0 0) sd h7 uq tx rp re pg tr bk kp jk sa se sm) := hD2
          refine lv_icmp_eq (tgt := 903) hx hb dL_law_575 (by decide) (fun _ => next _ _ ⟨_, _, _, _, _, _, _, _, _, _, _, _, _, _, _, _, _, _, _, _, _, _, _, _, _, _, _, hR1, hP2, hD2⟩ hS2) (fun c9 => absurd ((show r1 = _ from er1).trans (ea.trans (show r2 = _ from er2).symm)) c9)
set_option maxHeartbeats 4000000 in
set_option maxRecDepth 100000 in
theorem lw_share (kx : kX p s m args meth c cL_law 4 rr RL) (hK : kK G s) (hX : va_X b n0 xs s s.heap) (hbl : b < s.heap.size) (hbA : ¬ A b) (hA : ∀ q, s.heap.size ≤ q → A q) (hf : cells ≤ room_1.cells ∧ slots ≤ room_1.slots) (hS : va_S A s.heap H locs) (hI : I + 4 ≤ n0) (hn : n0 ≤ 2048) (hl : lv_has ls 4 [(3, .int (nI I)), (2, .ref h7), (1, .ref h0), (0, .ref b)]) (hs : lwS G n9 A h0 t0 t1 b0 s0 i0 e0 e1 e2 e3 aN aT aS0 aS1 aB h7 uq H) (next : ∀ (H1 : Heap) (locs1 : List Loc), lwS G n9 A h0 t0 t1 b0 s0 i0 e0 e1 e2 e3 aN aT aS0 aS1 aB h7 uq H1 → va_S A s.heap H1 locs1 → W p l e room_1 s m args below meth c H1 locs1 cells slots Qq (F0 m 903 ls [])) : W p l e room_1 s m args below meth c H locs cells slots Qq (F0 m 649 ls []) := by
  have hx := kx.1
  have hb := kx.2.1
  obtain ⟨d, sd, pi, L, sg, ik, z, tk, en, mo, gN, gT, gS0, gS1, gB, Z, tx, rp, re, pg, tr, bk, kp, jk, sa, se, sm, hR, hP, hD⟩ := hs
  obtain ⟨p0, g0⟩ : ∃ v, xs (I + 1) = v := ⟨_, rfl⟩
  obtain ⟨pb, gb⟩ : ∃ v, (if xs (I + 2) = 0 then (0 : Int32) else 1) = v := ⟨_, rfl⟩
  obtain ⟨n14, bd, cL, ez, ⟨f1, f2, f3⟩, hw, hB, htx, hk, hv⟩ := id hR
  obtain ⟨ea, hR1⟩ := st_share hR gT tr p0 pb
  refine lv_aload_n hx hb dL_law_649 rfl (lv_at hl 2 rfl) ?_
  refine lw_arg kx hX hbl hbA hS hI hn hl (k := 1) (by decide) rfl g0 dL_law_650 dL_law_651 dL_law_652 dL_law_653 dL_law_654 ?_
  refine lw_bool kx hX hbl hbA hS hI hn hl (k := 2) (by decide) rfl gb dL_law_655 dL_law_656 dL_law_657 dL_law_658 dL_law_659 dL_law_660 dL_law_663 dL_law_664 dL_law_667 ?_
  refine k_calli (kRunV (As := [.int p0, .int pb]) (rest := []) kx (c_X6_share l G (nI d) sd h0 t0 aN aT b0 s0 i0 e0 gN gT p0 pb hw.2.2.2.2.2.1) q_593 q_590 q_29 q_591 q_592 nX6_share ⟨Nat.le_of_ble_eq_true rfl, Nat.le_of_ble_eq_true rfl⟩ hK hP hD (kPm_left (kPm_app (kPm_keep (kPm_none _)) (kPm_keepB (kPm_left (kPm_all _))))).ctx 0 6 rfl rfl rfl rfl hl.1 (Nat.le_of_ble_eq_true rfl) dL_law_668 hf) hP hD hS hA (kPm_left (kPm_app (kPm_keep (kPm_none _)) (kPm_keepB (kPm_left (kPm_all _))))).ctx (fun _ => rfl) (fun r1 u1 H1 locs1 hw1 hP1 hD1 hS1 => ?_)
  obtain ⟨gT6, rfl⟩ : ∃ w, w = u1 := ⟨_, rfl⟩
  obtain ⟨er1, wgT6⟩ := hw1
  have hP1 : va_P G.1 vwCl (cAll G n9 d sd h0 t0 t1 b0 s0 i0 e0 e1 e2 e3 aN aT aS0 aS1 pi aB L sg ik z tk en mo gN gT6 gS0 gS1 gB ++ mAll G Z sd h7 uq tx rp re pg tr bk kp jk sa se sm) H1 := hP1
  have hD1 : va_D A (cAll G n9 d sd h0 t0 t1 b0 s0 i0 e0 e1 e2 e3 aN aT aS0 aS1 pi aB L sg ik z tk en mo gN gT6 gS0 gS1 gB ++ mAll G Z sd h7 uq tx rp re pg tr bk kp jk sa se sm) := hD1
  refine lv_aload_n hx hb dL_law_671 rfl (lv_at hl 1 rfl) ?_
  refine lw_arg kx hX hbl hbA hS1 hI hn hl (k := 1) (by decide) rfl g0 dL_law_672 dL_law_673 dL_law_674 dL_law_675 dL_law_676 ?_
  refine lw_bool kx hX hbl hbA hS1 hI hn hl (k := 2) (by decide) rfl gb dL_law_677 dL_law_678 dL_law_679 dL_law_680 dL_law_681 dL_law_682 dL_law_685 dL_law_686 dL_law_689 ?_
  have cz := c_X7_share l G Z sd h7 (uq 1) (uq 2) (uq 3) (uq 4) (uq 5) (uq 6) (uq 7) (uq 8) (uq 9) (uq 10) (uq 11) pg tr p0 pb
  refine k_calli (kRunV (As := [.int p0, .int pb]) (rest := [.int r1]) kx cz q_934 q_931 q_36 q_932 q_933 nX7_share ⟨Nat.le_of_ble_eq_true rfl, Nat.le_of_ble_eq_true rfl⟩ hK hP1 hD1 (kPm_skipB (kPm_keep (kPm_skip (kPm_skip (kPm_skip (kPm_keep (kPm_keep (kPm_none _)))))))).ctx 0 7 rfl rfl rfl rfl hl.1 (Nat.le_of_ble_eq_true rfl) dL_law_690 hf) hP1 hD1 hS1 hA (kPm_skipB (kPm_keep (kPm_skip (kPm_skip (kPm_skip (kPm_keep (kPm_keep (kPm_none _)))))))).ctx (fun _ => rfl) (fun r2 u2 H2 locs2 hw2 hP2 hD2 hS2 => ?_)
  obtain ⟨Z7, tr7⟩ := u2
  obtain ⟨er2, wZ7, wtr7⟩ := hw2
  rw [← show _ = _ from wZ7] at hR1
  have hP2 : va_P G.1 vwCl (cAll G n9 d sd h0 t0 t1 b0 s0 i0 e0 e1 e2 e3 aN aT aS0 aS1 pi aB L sg ik z tk en mo gN gT6 gS0 gS1 gB ++ mAll G Z7 sd h7 uq tx rp re pg tr7 bk kp jk sa se sm) H2 := hP2
  have hD2 : va_D A (cAll G n9 d sd h0 t0 t1 b0 s0 i0 e0 e1 e2 e3 aN aT aS0 aS1 pi aB L sg ik z tk en mo gN gT6 gS0 gS1 gB ++ mAll G Z7 sd h7 uq tx rp re pg tr7 bk kp jk sa se sm) := hD2
  refine lv_icmp_eq (tgt := 903) hx hb dL_law_693 (by decide) (fun _ => next _ _ ⟨_, _, _, _, _, _, _, _, _, _, _, _, _, _, _, _, _, _, _, _, _, _, _, _, _, _, _, hR1, hP2, hD2⟩ hS2) (fun c9 => absurd ((show r1 = _ from er1).trans (ea.trans (show r2 = _ from er2).symm)) c9)
set_option maxHeartbeats 4000000 in
set_option maxRecDepth 100000 in
theorem lw_luck (kx : kX p s m args meth c cL_law 4 rr RL) (hK : kK G s) (hX : va_X b n0 xs s s.heap) (hbl : b < s.heap.size) (hbA : ¬ A b) (hA : ∀ q, s.heap.size ≤ q → A q) (hf : cells ≤ room_1.cells ∧ slots ≤ room_1.slots) (hS : va_S A s.heap H locs) (hI : I + 4 ≤ n0) (hn : n0 ≤ 2048) (hl : lv_has ls 4 [(3, .int (nI I)), (2, .ref h7), (1, .ref h0), (0, .ref b)]) (hs : lwS G n9 A h0 t0 t1 b0 s0 i0 e0 e1 e2 e3 aN aT aS0 aS1 aB h7 uq H) (next : ∀ (H1 : Heap) (locs1 : List Loc), lwS G n9 A h0 t0 t1 b0 s0 i0 e0 e1 e2 e3 aN aT aS0 aS1 aB h7 uq H1 → va_S A s.heap H1 locs1 → W p l e room_1 s m args below meth c H1 locs1 cells slots Qq (F0 m 903 ls [])) : W p l e room_1 s m args below meth c H locs cells slots Qq (F0 m 698 ls []) := by
  have hx := kx.1
  have hb := kx.2.1
  obtain ⟨d, sd, pi, L, sg, ik, z, tk, en, mo, gN, gT, gS0, gS1, gB, Z, tx, rp, re, pg, tr, bk, kp, jk, sa, se, sm, hR, hP, hD⟩ := hs
  obtain ⟨p0, g0⟩ : ∃ v, xs (I + 1) = v := ⟨_, rfl⟩
  obtain ⟨p1, g1⟩ : ∃ v, xs (I + 2) = v := ⟨_, rfl⟩
  obtain ⟨pb, gb⟩ : ∃ v, (if xs (I + 3) = 0 then (0 : Int32) else 1) = v := ⟨_, rfl⟩
  by_cases hx9 : r_X7_in p0.toInt64 0 6 = 0 ∨ r_X7_in p1.toInt64 0 10 = 0
  · skip
    obtain ⟨n14, bd, cL, ez, ⟨f1, f2, f3⟩, hw, hB, htx, hk, hv⟩ := id hR
    obtain ⟨ea, hR1⟩ := st_luck_x hR gT p0 p1 pb hx9
    refine lv_aload_n hx hb dL_law_698 rfl (lv_at hl 2 rfl) ?_
    refine lw_arg kx hX hbl hbA hS hI hn hl (k := 1) (by decide) rfl g0 dL_law_699 dL_law_700 dL_law_701 dL_law_702 dL_law_703 ?_
    refine lw_arg kx hX hbl hbA hS hI hn hl (k := 2) (by decide) rfl g1 dL_law_704 dL_law_705 dL_law_706 dL_law_707 dL_law_708 ?_
    refine lw_bool kx hX hbl hbA hS hI hn hl (k := 3) (by decide) rfl gb dL_law_709 dL_law_710 dL_law_711 dL_law_712 dL_law_713 dL_law_714 dL_law_717 dL_law_718 dL_law_721 ?_
    refine k_calli (kRunV (As := [.int p0, .int p1, .int pb]) (rest := []) kx (c_X6_luck l G (nI d) sd h0 t0 aN aT b0 s0 i0 e0 gN gT p0 p1 pb hw.2.2.2.2.2.1) q_623 q_620 q_29 q_621 q_622 nX6_luck ⟨Nat.le_of_ble_eq_true rfl, Nat.le_of_ble_eq_true rfl⟩ hK hP hD (kPm_left (kPm_app (kPm_keep (kPm_none _)) (kPm_keepB (kPm_left (kPm_all _))))).ctx 0 6 rfl rfl rfl rfl hl.1 (Nat.le_of_ble_eq_true rfl) dL_law_722 hf) hP hD hS hA (kPm_left (kPm_app (kPm_keep (kPm_none _)) (kPm_keepB (kPm_left (kPm_all _))))).ctx (fun _ => rfl) (fun r1 u1 H1 locs1 hw1 hP1 hD1 hS1 => ?_)
    obtain ⟨gT6, rfl⟩ : ∃ w, w = u1 := ⟨_, rfl⟩
    obtain ⟨er1, wgT6⟩ := hw1
    have hP1 : va_P G.1 vwCl (cAll G n9 d sd h0 t0 t1 b0 s0 i0 e0 e1 e2 e3 aN aT aS0 aS1 pi aB L sg ik z tk en mo gN gT6 gS0 gS1 gB ++ mAll G Z sd h7 uq tx rp re pg tr bk kp jk sa se sm) H1 := hP1
    have hD1 : va_D A (cAll G n9 d sd h0 t0 t1 b0 s0 i0 e0 e1 e2 e3 aN aT aS0 aS1 pi aB L sg ik z tk en mo gN gT6 gS0 gS1 gB ++ mAll G Z sd h7 uq tx rp re pg tr bk kp jk sa se sm) := hD1
    refine lv_aload_n hx hb dL_law_725 rfl (lv_at hl 1 rfl) ?_
    refine lw_arg kx hX hbl hbA hS1 hI hn hl (k := 1) (by decide) rfl g0 dL_law_726 dL_law_727 dL_law_728 dL_law_729 dL_law_730 ?_
    refine lw_arg kx hX hbl hbA hS1 hI hn hl (k := 2) (by decide) rfl g1 dL_law_731 dL_law_732 dL_law_733 dL_law_734 dL_law_735 ?_
    refine lw_bool kx hX hbl hbA hS1 hI hn hl (k := 3) (by decide) rfl gb dL_law_736 dL_law_737 dL_law_738 dL_law_739 dL_law_740 dL_law_741 dL_law_744 dL_law_745 dL_law_748 ?_
    have cz := c_X7_luck_x l G Z sd h7 (uq 1) (uq 2) (uq 3) (uq 4) (uq 5) (uq 6) (uq 7) (uq 8) (uq 9) (uq 10) (uq 11) p0 p1 pb hx9
    refine k_calli (kRunV (As := [.int p0, .int p1, .int pb]) (rest := [.int r1]) kx cz q_954 q_951 q_36 q_952 q_953 nX7_luck ⟨Nat.le_of_ble_eq_true rfl, Nat.le_of_ble_eq_true rfl⟩ hK hP1 hD1 (kPm_skipB (kPm_keep (kPm_none _))).ctx 0 7 rfl rfl rfl rfl hl.1 (Nat.le_of_ble_eq_true rfl) dL_law_749 hf) hP1 hD1 hS1 hA (kPm_skipB (kPm_keep (kPm_none _))).ctx (fun _ => rfl) (fun r2 u2 H2 locs2 hw2 hP2 hD2 hS2 => ?_)
    obtain ⟨Z7, rfl⟩ : ∃ w, w = u2 := ⟨_, rfl⟩
    obtain ⟨er2, wZ7⟩ := hw2
    rw [← show _ = _ from wZ7] at hR1
    have hP2 : va_P G.1 vwCl (cAll G n9 d sd h0 t0 t1 b0 s0 i0 e0 e1 e2 e3 aN aT aS0 aS1 pi aB L sg ik z tk en mo gN gT6 gS0 gS1 gB ++ mAll G Z7 sd h7 uq tx rp re pg tr bk kp jk sa se sm) H2 := hP2
    have hD2 : va_D A (cAll G n9 d sd h0 t0 t1 b0 s0 i0 e0 e1 e2 e3 aN aT aS0 aS1 pi aB L sg ik z tk en mo gN gT6 gS0 gS1 gB ++ mAll G Z7 sd h7 uq tx rp re pg tr bk kp jk sa se sm) := hD2
    refine lv_icmp_eq (tgt := 903) hx hb dL_law_752 (by decide) (fun _ => next _ _ ⟨_, _, _, _, _, _, _, _, _, _, _, _, _, _, _, _, _, _, _, _, _, _, _, _, _, _, _, hR1, hP2, hD2⟩ hS2) (fun c9 => absurd ((show r1 = _ from er1).trans (ea.trans (show r2 = _ from er2).symm)) c9)
  · have i1 : ¬ r_X7_in p0.toInt64 0 6 = 0 := fun w => hx9 (Or.inl w)
    have i2 : ¬ r_X7_in p1.toInt64 0 10 = 0 := fun w => hx9 (Or.inr w)
    obtain ⟨rn, hrn, rfl⟩ := knum (N := 6) (by decide) (fun w => i1 ((kin32 (a := 0) (b := 6) rfl rfl).mpr (Or.inl w))) (fun w => i1 ((kin32 (a := 0) (b := 6) rfl rfl).mpr (Or.inr w)))
    obtain ⟨xn, hxn, rfl⟩ := knum (N := 10) (by decide) (fun w => i2 ((kin32 (a := 0) (b := 10) rfl rfl).mpr (Or.inl w))) (fun w => i2 ((kin32 (a := 0) (b := 10) rfl rfl).mpr (Or.inr w)))
    obtain ⟨k40, h40⟩ : ∃ k : Int32, k = 40 := ⟨_, rfl⟩
    obtain ⟨n14, bd, cL, ez, ⟨f1, f2, f3⟩, hw, hB, htx, hk, hv⟩ := id hR
    obtain ⟨ea, hR1⟩ := st_luck_ok hR gT tr hrn hxn pb k40 h40
    refine lv_aload_n hx hb dL_law_698 rfl (lv_at hl 2 rfl) ?_
    refine lw_arg kx hX hbl hbA hS hI hn hl (k := 1) (by decide) rfl g0 dL_law_699 dL_law_700 dL_law_701 dL_law_702 dL_law_703 ?_
    refine lw_arg kx hX hbl hbA hS hI hn hl (k := 2) (by decide) rfl g1 dL_law_704 dL_law_705 dL_law_706 dL_law_707 dL_law_708 ?_
    refine lw_bool kx hX hbl hbA hS hI hn hl (k := 3) (by decide) rfl gb dL_law_709 dL_law_710 dL_law_711 dL_law_712 dL_law_713 dL_law_714 dL_law_717 dL_law_718 dL_law_721 ?_
    refine k_calli (kRunV (As := [.int (nI rn), .int (nI xn), .int pb]) (rest := []) kx (c_X6_luck l G (nI d) sd h0 t0 aN aT b0 s0 i0 e0 gN gT (nI rn) (nI xn) pb hw.2.2.2.2.2.1) q_623 q_620 q_29 q_621 q_622 nX6_luck ⟨Nat.le_of_ble_eq_true rfl, Nat.le_of_ble_eq_true rfl⟩ hK hP hD (kPm_left (kPm_app (kPm_keep (kPm_none _)) (kPm_keepB (kPm_left (kPm_all _))))).ctx 0 6 rfl rfl rfl rfl hl.1 (Nat.le_of_ble_eq_true rfl) dL_law_722 hf) hP hD hS hA (kPm_left (kPm_app (kPm_keep (kPm_none _)) (kPm_keepB (kPm_left (kPm_all _))))).ctx (fun _ => rfl) (fun r1 u1 H1 locs1 hw1 hP1 hD1 hS1 => ?_)
    obtain ⟨gT6, rfl⟩ : ∃ w, w = u1 := ⟨_, rfl⟩
    obtain ⟨er1, wgT6⟩ := hw1
    have hP1 : va_P G.1 vwCl (cAll G n9 d sd h0 t0 t1 b0 s0 i0 e0 e1 e2 e3 aN aT aS0 aS1 pi aB L sg ik z tk en mo gN gT6 gS0 gS1 gB ++ mAll G Z sd h7 uq tx rp re pg tr bk kp jk sa se sm) H1 := hP1
    have hD1 : va_D A (cAll G n9 d sd h0 t0 t1 b0 s0 i0 e0 e1 e2 e3 aN aT aS0 aS1 pi aB L sg ik z tk en mo gN gT6 gS0 gS1 gB ++ mAll G Z sd h7 uq tx rp re pg tr bk kp jk sa se sm) := hD1
    refine lv_aload_n hx hb dL_law_725 rfl (lv_at hl 1 rfl) ?_
    refine lw_arg kx hX hbl hbA hS1 hI hn hl (k := 1) (by decide) rfl g0 dL_law_726 dL_law_727 dL_law_728 dL_law_729 dL_law_730 ?_
    refine lw_arg kx hX hbl hbA hS1 hI hn hl (k := 2) (by decide) rfl g1 dL_law_731 dL_law_732 dL_law_733 dL_law_734 dL_law_735 ?_
    refine lw_bool kx hX hbl hbA hS1 hI hn hl (k := 3) (by decide) rfl gb dL_law_736 dL_law_737 dL_law_738 dL_law_739 dL_law_740 dL_law_741 dL_law_744 dL_law_745 dL_law_748 ?_
    have cz := c_X7_luck_ok l G Z sd h7 (uq 1) (uq 2) (uq 3) (uq 4) (uq 5) (uq 6) (uq 7) (uq 8) (uq 9) (uq 10) (uq 11) pg tr rn xn pb k40 hrn hxn i1 i2 h40
    refine k_calli (kRunV (As := [.int (nI rn), .int (nI xn), .int pb]) (rest := [.int r1]) kx cz q_954 q_951 q_36 q_952 q_953 nX7_luck ⟨Nat.le_of_ble_eq_true rfl, Nat.le_of_ble_eq_true rfl⟩ hK hP1 hD1 (kPm_skipB (kPm_keep (kPm_skip (kPm_skip (kPm_skip (kPm_keep (kPm_keep (kPm_none _)))))))).ctx 0 7 rfl rfl rfl rfl hl.1 (Nat.le_of_ble_eq_true rfl) dL_law_749 hf) hP1 hD1 hS1 hA (kPm_skipB (kPm_keep (kPm_skip (kPm_skip (kPm_skip (kPm_keep (kPm_keep (kPm_none _)))))))).ctx (fun _ => rfl) (fun r2 u2 H2 locs2 hw2 hP2 hD2 hS2 => ?_)
    obtain ⟨Z7, tr7⟩ := u2
    obtain ⟨er2, wZ7, wtr7⟩ := hw2
    rw [← show _ = _ from wZ7] at hR1
    have hP2 : va_P G.1 vwCl (cAll G n9 d sd h0 t0 t1 b0 s0 i0 e0 e1 e2 e3 aN aT aS0 aS1 pi aB L sg ik z tk en mo gN gT6 gS0 gS1 gB ++ mAll G Z7 sd h7 uq tx rp re pg tr7 bk kp jk sa se sm) H2 := hP2
    have hD2 : va_D A (cAll G n9 d sd h0 t0 t1 b0 s0 i0 e0 e1 e2 e3 aN aT aS0 aS1 pi aB L sg ik z tk en mo gN gT6 gS0 gS1 gB ++ mAll G Z7 sd h7 uq tx rp re pg tr7 bk kp jk sa se sm) := hD2
    refine lv_icmp_eq (tgt := 903) hx hb dL_law_752 (by decide) (fun _ => next _ _ ⟨_, _, _, _, _, _, _, _, _, _, _, _, _, _, _, _, _, _, _, _, _, _, _, _, _, _, _, hR1, hP2, hD2⟩ hS2) (fun c9 => absurd ((show r1 = _ from er1).trans (ea.trans (show r2 = _ from er2).symm)) c9)
end LW
