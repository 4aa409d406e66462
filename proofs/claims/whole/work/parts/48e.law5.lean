section LW
variable {p : Program} {l : Launch} {e : Env} {s : State} {m : MethodId} {args : Array Value} {below : List Frame} {meth : Method} {c : Code} {H : Heap} {locs : List Loc} {cells slots : Nat} {Qq : State → Prop} {rr : Option FieldType}
variable {ls : Array Slot} {rest : List Value} {G : kG} {A : Nat → Prop} {b n0 I n9 : Nat} {xs : Nat → Int32} {h0 t0 t1 b0 s0 i0 e0 e1 e2 e3 : Nat} {aN aT aS0 aS1 : Nat → Nat} {aB : Nat → Nat → Nat} {h7 : Nat} {uq : Nat → Nat}
set_option maxHeartbeats 4000000 in
set_option maxRecDepth 100000 in
theorem lw_seed (kx : kX p s m args meth c cL_law 4 rr RL) (hK : kK G s) (hX : va_X b n0 xs s s.heap) (hbl : b < s.heap.size) (hbA : ¬ A b) (hA : ∀ q, s.heap.size ≤ q → A q) (hf : cells ≤ room_1.cells ∧ slots ≤ room_1.slots) (hS : va_S A s.heap H locs) (hI : I + 4 ≤ n0) (hn : n0 ≤ 2048) (hl : lv_has ls 4 [(3, .int (nI I)), (2, .ref h7), (1, .ref h0), (0, .ref b)]) (hs : lwS G n9 A h0 t0 t1 b0 s0 i0 e0 e1 e2 e3 aN aT aS0 aS1 aB h7 uq H) (next : ∀ (H1 : Heap) (locs1 : List Loc), lwS G n9 A h0 t0 t1 b0 s0 i0 e0 e1 e2 e3 aN aT aS0 aS1 aB h7 uq H1 → va_S A s.heap H1 locs1 → W p l e room_1 s m args below meth c H1 locs1 cells slots Qq (F0 m 903 ls [])) : W p l e room_1 s m args below meth c H locs cells slots Qq (F0 m 757 ls []) := by
  have hx := kx.1
  have hb := kx.2.1
  obtain ⟨d, sd, pi, L, sg, ik, z, tk, en, mo, gN, gT, gS0, gS1, gB, Z, tx, rp, re, pg, tr, bk, kp, jk, sa, se, sm, hR, hP, hD⟩ := hs
  obtain ⟨lg, gl⟩ : ∃ v, lwL (xs (I + 1)) (xs (I + 2)) = v := ⟨_, rfl⟩
  obtain ⟨n14, bd, cL, ez, ⟨f1, f2, f3⟩, hw, hB, htx, hk, hv⟩ := id hR
  obtain hR1 := st_seed hR
  refine lv_aload_n hx hb dL_law_757 rfl (lv_at hl 2 rfl) ?_
  refine lw_long kx hX hbl hbA hS hI hn hl (k := 1) (k2 := 2) (by decide) (by decide) rfl rfl gl dL_law_758 dL_law_759 dL_law_760 dL_law_761 dL_law_762 dL_law_763 dL_law_764 dL_law_766 dL_law_767 dL_law_768 dL_law_769 dL_law_770 dL_law_771 dL_law_772 dL_law_773 dL_law_776 dL_law_777 ?_
  refine k_calll (kRunV (As := [.long lg]) (rest := []) kx (c_X6_seed l G (nI d) sd h0 t0 aN aT b0 s0 i0 e0 lg) q_638 q_635 q_29 q_636 q_637 nX6_seed ⟨Nat.le_of_ble_eq_true rfl, Nat.le_of_ble_eq_true rfl⟩ hK hP hD (kPm_left (kPm_left (kPm_keep (kPm_none _)))).ctx 0 6 rfl rfl rfl rfl hl.1 (Nat.le_of_ble_eq_true rfl) dL_law_778 hf) hP hD hS hA (kPm_left (kPm_left (kPm_keep (kPm_none _)))).ctx (fun _ => rfl) (fun r1 u1 H1 locs1 hw1 hP1 hD1 hS1 => ?_)
  have er1 := hw1
  have hP1 : va_P G.1 vwCl (cAll G n9 d lg h0 t0 t1 b0 s0 i0 e0 e1 e2 e3 aN aT aS0 aS1 pi aB L sg ik z tk en mo gN gT gS0 gS1 gB ++ mAll G Z sd h7 uq tx rp re pg tr bk kp jk sa se sm) H1 := hP1
  have hD1 : va_D A (cAll G n9 d lg h0 t0 t1 b0 s0 i0 e0 e1 e2 e3 aN aT aS0 aS1 pi aB L sg ik z tk en mo gN gT gS0 gS1 gB ++ mAll G Z sd h7 uq tx rp re pg tr bk kp jk sa se sm) := hD1
  refine lv_aload_n hx hb dL_law_781 rfl (lv_at hl 1 rfl) ?_
  refine lw_long kx hX hbl hbA hS1 hI hn hl (k := 1) (k2 := 2) (by decide) (by decide) rfl rfl gl dL_law_782 dL_law_783 dL_law_784 dL_law_785 dL_law_786 dL_law_787 dL_law_788 dL_law_790 dL_law_791 dL_law_792 dL_law_793 dL_law_794 dL_law_795 dL_law_796 dL_law_797 dL_law_800 dL_law_801 ?_
  have cz := c_X7_seed l G Z sd h7 (uq 1) (uq 2) (uq 3) (uq 4) (uq 5) (uq 6) (uq 7) (uq 8) (uq 9) (uq 10) (uq 11) lg
  refine k_calll (kRunV (As := [.long lg]) (rest := [.long r1]) kx cz q_963 q_960 q_36 q_961 q_962 nX7_seed ⟨Nat.le_of_ble_eq_true rfl, Nat.le_of_ble_eq_true rfl⟩ hK hP1 hD1 (kPm_skipB (kPm_keep (kPm_none _))).ctx 0 7 rfl rfl rfl rfl hl.1 (Nat.le_of_ble_eq_true rfl) dL_law_802 hf) hP1 hD1 hS1 hA (kPm_skipB (kPm_keep (kPm_none _))).ctx (fun _ => rfl) (fun r2 u2 H2 locs2 hw2 hP2 hD2 hS2 => ?_)
  have er2 := hw2
  have hP2 : va_P G.1 vwCl (cAll G n9 d lg h0 t0 t1 b0 s0 i0 e0 e1 e2 e3 aN aT aS0 aS1 pi aB L sg ik z tk en mo gN gT gS0 gS1 gB ++ mAll G (upd Z 0 0) lg h7 uq tx rp re pg tr bk kp jk sa se sm) H2 := hP2
  have hD2 : va_D A (cAll G n9 d lg h0 t0 t1 b0 s0 i0 e0 e1 e2 e3 aN aT aS0 aS1 pi aB L sg ik z tk en mo gN gT gS0 gS1 gB ++ mAll G (upd Z 0 0) lg h7 uq tx rp re pg tr bk kp jk sa se sm) := hD2
  refine W.lcmp hx hb dL_law_805 ?_
  refine lv_if_eq (tgt := 903) hx hb dL_law_806 (by decide) (fun _ => next _ _ ⟨_, _, _, _, _, _, _, _, _, _, _, _, _, _, _, _, _, _, _, _, _, _, _, _, _, _, _, hR1, hP2, hD2⟩ hS2) (fun c9 => absurd (show lg_cmp r1 r2 = 0 by rw [show r1 = _ from er1, show r2 = _ from er2]; exact lwcmp _) c9)
set_option maxHeartbeats 4000000 in
set_option maxRecDepth 100000 in
theorem lw_drawn (kx : kX p s m args meth c cL_law 4 rr RL) (hK : kK G s) (hX : va_X b n0 xs s s.heap) (hbl : b < s.heap.size) (hbA : ¬ A b) (hA : ∀ q, s.heap.size ≤ q → A q) (hf : cells ≤ room_1.cells ∧ slots ≤ room_1.slots) (hS : va_S A s.heap H locs) (hI : I + 4 ≤ n0) (hn : n0 ≤ 2048) (hl : lv_has ls 4 [(3, .int (nI I)), (2, .ref h7), (1, .ref h0), (0, .ref b)]) (hs : lwS G n9 A h0 t0 t1 b0 s0 i0 e0 e1 e2 e3 aN aT aS0 aS1 aB h7 uq H) (next : ∀ (H1 : Heap) (locs1 : List Loc), lwS G n9 A h0 t0 t1 b0 s0 i0 e0 e1 e2 e3 aN aT aS0 aS1 aB h7 uq H1 → va_S A s.heap H1 locs1 → W p l e room_1 s m args below meth c H1 locs1 cells slots Qq (F0 m 903 ls [])) : W p l e room_1 s m args below meth c H locs cells slots Qq (F0 m 811 ls []) := by
  have hx := kx.1
  have hb := kx.2.1
  obtain ⟨d, sd, pi, L, sg, ik, z, tk, en, mo, gN, gT, gS0, gS1, gB, Z, tx, rp, re, pg, tr, bk, kp, jk, sa, se, sm, hR, hP, hD⟩ := hs
  obtain ⟨p0, g0⟩ : ∃ v, xs (I + 1) = v := ⟨_, rfl⟩
  obtain ⟨n14, bd, cL, ez, ⟨f1, f2, f3⟩, hw, hB, htx, hk, hv⟩ := id hR
  obtain ⟨ea, es, hR1⟩ := st_drawn hR tr sd p0
  refine lv_aload_n hx hb dL_law_811 rfl (lv_at hl 2 rfl) ?_
  refine lw_arg kx hX hbl hbA hS hI hn hl (k := 1) (by decide) rfl g0 dL_law_812 dL_law_813 dL_law_814 dL_law_815 dL_law_816 ?_
  refine k_calli (kRunV (As := [.int p0]) (rest := []) kx (c_X6_drawn l G (nI d) sd h0 t0 aN aT b0 s0 i0 e0 gN gT p0 hw.2.2.2.2.2.1) q_642 q_639 q_29 q_640 q_641 nX6_drawn ⟨Nat.le_of_ble_eq_true rfl, Nat.le_of_ble_eq_true rfl⟩ hK hP hD (kPm_left (kPm_app (kPm_keep (kPm_none _)) (kPm_keepB (kPm_left (kPm_all _))))).ctx 0 6 rfl rfl rfl rfl hl.1 (Nat.le_of_ble_eq_true rfl) dL_law_817 hf) hP hD hS hA (kPm_left (kPm_app (kPm_keep (kPm_none _)) (kPm_keepB (kPm_left (kPm_all _))))).ctx (fun _ => rfl) (fun r1 u1 H1 locs1 hw1 hP1 hD1 hS1 => ?_)
  obtain ⟨gT6, sd6⟩ := u1
  obtain ⟨er1, wgT6, wsd6⟩ := hw1
  have hP1 : va_P G.1 vwCl (cAll G n9 d sd6 h0 t0 t1 b0 s0 i0 e0 e1 e2 e3 aN aT aS0 aS1 pi aB L sg ik z tk en mo gN gT6 gS0 gS1 gB ++ mAll G Z sd h7 uq tx rp re pg tr bk kp jk sa se sm) H1 := hP1
  have hD1 : va_D A (cAll G n9 d sd6 h0 t0 t1 b0 s0 i0 e0 e1 e2 e3 aN aT aS0 aS1 pi aB L sg ik z tk en mo gN gT6 gS0 gS1 gB ++ mAll G Z sd h7 uq tx rp re pg tr bk kp jk sa se sm) := hD1
  refine lv_aload_n hx hb dL_law_820 rfl (lv_at hl 1 rfl) ?_
  refine lw_arg kx hX hbl hbA hS1 hI hn hl (k := 1) (by decide) rfl g0 dL_law_821 dL_law_822 dL_law_823 dL_law_824 dL_law_825 ?_
  have cz := c_X7_drawn l G Z sd h7 (uq 1) (uq 2) (uq 3) (uq 4) (uq 5) (uq 6) (uq 7) (uq 8) (uq 9) (uq 10) (uq 11) pg tr p0
  refine k_calli (kRunV (As := [.int p0]) (rest := [.int r1]) kx cz q_967 q_964 q_36 q_965 q_966 nX7_drawn ⟨Nat.le_of_ble_eq_true rfl, Nat.le_of_ble_eq_true rfl⟩ hK hP1 hD1 (kPm_skipB (kPm_keep (kPm_skip (kPm_skip (kPm_skip (kPm_keep (kPm_keep (kPm_none _)))))))).ctx 0 7 rfl rfl rfl rfl hl.1 (Nat.le_of_ble_eq_true rfl) dL_law_826 hf) hP1 hD1 hS1 hA (kPm_skipB (kPm_keep (kPm_skip (kPm_skip (kPm_skip (kPm_keep (kPm_keep (kPm_none _)))))))).ctx (fun _ => rfl) (fun r2 u2 H2 locs2 hw2 hP2 hD2 hS2 => ?_)
  obtain ⟨Z7, tr7, sd7⟩ := u2
  obtain ⟨er2, wZ7, wtr7, wsd7⟩ := hw2
  rw [← show _ = _ from wZ7] at hR1
  have hP2 : va_P G.1 vwCl (cAll G n9 d sd6 h0 t0 t1 b0 s0 i0 e0 e1 e2 e3 aN aT aS0 aS1 pi aB L sg ik z tk en mo gN gT6 gS0 gS1 gB ++ mAll G Z7 sd7 h7 uq tx rp re pg tr7 bk kp jk sa se sm) H2 := hP2
  have hD2 : va_D A (cAll G n9 d sd6 h0 t0 t1 b0 s0 i0 e0 e1 e2 e3 aN aT aS0 aS1 pi aB L sg ik z tk en mo gN gT6 gS0 gS1 gB ++ mAll G Z7 sd7 h7 uq tx rp re pg tr7 bk kp jk sa se sm) := hD2
  have esd : sd6 = sd7 := (show sd6 = _ from wsd6).trans (es.trans (show sd7 = _ from wsd7).symm)
  subst esd
  refine lv_icmp_eq (tgt := 903) hx hb dL_law_829 (by decide) (fun _ => next _ _ ⟨_, _, _, _, _, _, _, _, _, _, _, _, _, _, _, _, _, _, _, _, _, _, _, _, _, _, _, hR1, hP2, hD2⟩ hS2) (fun c9 => absurd ((show r1 = _ from er1).trans (ea.trans (show r2 = _ from er2).symm)) c9)
set_option maxHeartbeats 4000000 in
set_option maxRecDepth 100000 in
theorem lw_keep (kx : kX p s m args meth c cL_law 4 rr RL) (hK : kK G s) (hX : va_X b n0 xs s s.heap) (hbl : b < s.heap.size) (hbA : ¬ A b) (hA : ∀ q, s.heap.size ≤ q → A q) (hf : cells ≤ room_1.cells ∧ slots ≤ room_1.slots) (hS : va_S A s.heap H locs) (hI : I + 4 ≤ n0) (hn : n0 ≤ 2048) (hl : lv_has ls 4 [(3, .int (nI I)), (2, .ref h7), (1, .ref h0), (0, .ref b)]) (hs : lwS G n9 A h0 t0 t1 b0 s0 i0 e0 e1 e2 e3 aN aT aS0 aS1 aB h7 uq H) (next : ∀ (H1 : Heap) (locs1 : List Loc), lwS G n9 A h0 t0 t1 b0 s0 i0 e0 e1 e2 e3 aN aT aS0 aS1 aB h7 uq H1 → va_S A s.heap H1 locs1 → W p l e room_1 s m args below meth c H1 locs1 cells slots Qq (F0 m 903 ls [])) : W p l e room_1 s m args below meth c H locs cells slots Qq (F0 m 834 ls []) := by
  have hx := kx.1
  have hb := kx.2.1
  obtain ⟨d, sd, pi, L, sg, ik, z, tk, en, mo, gN, gT, gS0, gS1, gB, Z, tx, rp, re, pg, tr, bk, kp, jk, sa, se, sm, hR, hP, hD⟩ := hs
  obtain ⟨p0, g0⟩ : ∃ v, xs (I + 1) = v := ⟨_, rfl⟩
  by_cases c0 : p0 = 0
  · subst c0
    obtain ⟨n14, bd, cL, ez, ⟨f1, f2, f3⟩, hw, hB, htx, hk, hv⟩ := id hR
    obtain ⟨ea, hR1⟩ := st_keep_0 hR
    refine lv_aload_n hx hb dL_law_834 rfl (lv_at hl 2 rfl) ?_
    refine lw_arg kx hX hbl hbA hS hI hn hl (k := 1) (by decide) rfl g0 dL_law_835 dL_law_836 dL_law_837 dL_law_838 dL_law_839 ?_
    refine k_calli (kRunV (As := [.int 0]) (rest := []) kx (c_X6_keep_0 l G (nI d) sd h0 t0 aN aT b0 s0 i0 e0 aS0 aS1 ik gN gS0 gS1 hw.2.2.2.2.2.1) q_648 q_645 q_29 q_646 q_647 nX6_keep ⟨Nat.le_of_ble_eq_true rfl, Nat.le_of_ble_eq_true rfl⟩ hK hP hD (kPm_left (kPm_app (kPm_keep (kPm_skip (kPm_skip (kPm_skip (kPm_keep (kPm_keep (kPm_none _))))))) (kPm_keepB (kPm_skipB (kPm_keepB (kPm_left (kPm_all _))))))).ctx 0 6 rfl rfl rfl rfl hl.1 (Nat.le_of_ble_eq_true rfl) dL_law_840 hf) hP hD hS hA (kPm_left (kPm_app (kPm_keep (kPm_skip (kPm_skip (kPm_skip (kPm_keep (kPm_keep (kPm_none _))))))) (kPm_keepB (kPm_skipB (kPm_keepB (kPm_left (kPm_all _))))))).ctx (fun _ => rfl) (fun r1 u1 H1 locs1 hw1 hP1 hD1 hS1 => ?_)
    have er1 := hw1
    have hP1 : va_P G.1 vwCl (cAll G n9 d sd h0 t0 t1 b0 s0 i0 e0 e1 e2 e3 aN aT aS0 aS1 pi aB L sg (upd ik 0 1) z tk en mo gN gT gN gS1 gB ++ mAll G Z sd h7 uq tx rp re pg tr bk kp jk sa se sm) H1 := hP1
    have hD1 : va_D A (cAll G n9 d sd h0 t0 t1 b0 s0 i0 e0 e1 e2 e3 aN aT aS0 aS1 pi aB L sg (upd ik 0 1) z tk en mo gN gT gN gS1 gB ++ mAll G Z sd h7 uq tx rp re pg tr bk kp jk sa se sm) := hD1
    refine lv_aload_n hx hb dL_law_843 rfl (lv_at hl 1 rfl) ?_
    refine lw_arg kx hX hbl hbA hS1 hI hn hl (k := 1) (by decide) rfl g0 dL_law_844 dL_law_845 dL_law_846 dL_law_847 dL_law_848 ?_
    have cz := c_X7_keep_0 l G Z sd h7 (uq 1) (uq 2) (uq 3) (uq 4) (uq 5) (uq 6) (uq 7) (uq 8) (uq 9) (uq 10) (uq 11) pg kp jk
    refine k_calli (kRunV (As := [.int 0]) (rest := [.int r1]) kx cz q_973 q_970 q_36 q_971 q_972 nX7_keep ⟨Nat.le_of_ble_eq_true rfl, Nat.le_of_ble_eq_true rfl⟩ hK hP1 hD1 (kPm_skipB (kPm_keep (kPm_skip (kPm_skip (kPm_skip (kPm_keep (kPm_skip (kPm_skip (kPm_keep (kPm_keep (kPm_none _))))))))))).ctx 0 7 rfl rfl rfl rfl hl.1 (Nat.le_of_ble_eq_true rfl) dL_law_849 hf) hP1 hD1 hS1 hA (kPm_skipB (kPm_keep (kPm_skip (kPm_skip (kPm_skip (kPm_keep (kPm_skip (kPm_skip (kPm_keep (kPm_keep (kPm_none _))))))))))).ctx (fun _ => rfl) (fun r2 u2 H2 locs2 hw2 hP2 hD2 hS2 => ?_)
    obtain ⟨Z7, kp7, ik7⟩ := u2
    obtain ⟨er2, wZ7, wkp7, wik7⟩ := hw2
    rw [← show _ = _ from wZ7] at hR1
    rw [← show _ = _ from wkp7] at hR1
    rw [← show _ = _ from wik7] at hR1
    have hP2 : va_P G.1 vwCl (cAll G n9 d sd h0 t0 t1 b0 s0 i0 e0 e1 e2 e3 aN aT aS0 aS1 pi aB L sg (upd ik 0 1) z tk en mo gN gT gN gS1 gB ++ mAll G Z7 sd h7 uq tx rp re pg tr bk kp7 ik7 sa se sm) H2 := hP2
    have hD2 : va_D A (cAll G n9 d sd h0 t0 t1 b0 s0 i0 e0 e1 e2 e3 aN aT aS0 aS1 pi aB L sg (upd ik 0 1) z tk en mo gN gT gN gS1 gB ++ mAll G Z7 sd h7 uq tx rp re pg tr bk kp7 ik7 sa se sm) := hD2
    refine lv_icmp_eq (tgt := 903) hx hb dL_law_852 (by decide) (fun _ => next _ _ ⟨_, _, _, _, _, _, _, _, _, _, _, _, _, _, _, _, _, _, _, _, _, _, _, _, _, _, _, hR1, hP2, hD2⟩ hS2) (fun c9 => absurd ((show r1 = _ from er1).trans (ea.trans (show r2 = _ from er2).symm)) c9)
  · by_cases c1 : p0 = 1
    · subst c1
      obtain ⟨n14, bd, cL, ez, ⟨f1, f2, f3⟩, hw, hB, htx, hk, hv⟩ := id hR
      obtain ⟨ea, hR1⟩ := st_keep_1 hR
      refine lv_aload_n hx hb dL_law_834 rfl (lv_at hl 2 rfl) ?_
      refine lw_arg kx hX hbl hbA hS hI hn hl (k := 1) (by decide) rfl g0 dL_law_835 dL_law_836 dL_law_837 dL_law_838 dL_law_839 ?_
      refine k_calli (kRunV (As := [.int 1]) (rest := []) kx (c_X6_keep_1 l G (nI d) sd h0 t0 aN aT b0 s0 i0 e0 aS0 aS1 ik gN gS0 gS1 hw.2.2.2.2.2.1) q_648 q_645 q_29 q_646 q_647 nX6_keep ⟨Nat.le_of_ble_eq_true rfl, Nat.le_of_ble_eq_true rfl⟩ hK hP hD (kPm_left (kPm_app (kPm_keep (kPm_skip (kPm_skip (kPm_skip (kPm_keep (kPm_keep (kPm_none _))))))) (kPm_keepB (kPm_skipB (kPm_keepB (kPm_left (kPm_all _))))))).ctx 0 6 rfl rfl rfl rfl hl.1 (Nat.le_of_ble_eq_true rfl) dL_law_840 hf) hP hD hS hA (kPm_left (kPm_app (kPm_keep (kPm_skip (kPm_skip (kPm_skip (kPm_keep (kPm_keep (kPm_none _))))))) (kPm_keepB (kPm_skipB (kPm_keepB (kPm_left (kPm_all _))))))).ctx (fun _ => rfl) (fun r1 u1 H1 locs1 hw1 hP1 hD1 hS1 => ?_)
      have er1 := hw1
      have hP1 : va_P G.1 vwCl (cAll G n9 d sd h0 t0 t1 b0 s0 i0 e0 e1 e2 e3 aN aT aS0 aS1 pi aB L sg (upd ik 1 1) z tk en mo gN gT gS0 gN gB ++ mAll G Z sd h7 uq tx rp re pg tr bk kp jk sa se sm) H1 := hP1
      have hD1 : va_D A (cAll G n9 d sd h0 t0 t1 b0 s0 i0 e0 e1 e2 e3 aN aT aS0 aS1 pi aB L sg (upd ik 1 1) z tk en mo gN gT gS0 gN gB ++ mAll G Z sd h7 uq tx rp re pg tr bk kp jk sa se sm) := hD1
      refine lv_aload_n hx hb dL_law_843 rfl (lv_at hl 1 rfl) ?_
      refine lw_arg kx hX hbl hbA hS1 hI hn hl (k := 1) (by decide) rfl g0 dL_law_844 dL_law_845 dL_law_846 dL_law_847 dL_law_848 ?_
      have cz := c_X7_keep_1 l G Z sd h7 (uq 1) (uq 2) (uq 3) (uq 4) (uq 5) (uq 6) (uq 7) (uq 8) (uq 9) (uq 10) (uq 11) pg kp jk
      refine k_calli (kRunV (As := [.int 1]) (rest := [.int r1]) kx cz q_973 q_970 q_36 q_971 q_972 nX7_keep ⟨Nat.le_of_ble_eq_true rfl, Nat.le_of_ble_eq_true rfl⟩ hK hP1 hD1 (kPm_skipB (kPm_keep (kPm_skip (kPm_skip (kPm_skip (kPm_keep (kPm_skip (kPm_skip (kPm_keep (kPm_keep (kPm_none _))))))))))).ctx 0 7 rfl rfl rfl rfl hl.1 (Nat.le_of_ble_eq_true rfl) dL_law_849 hf) hP1 hD1 hS1 hA (kPm_skipB (kPm_keep (kPm_skip (kPm_skip (kPm_skip (kPm_keep (kPm_skip (kPm_skip (kPm_keep (kPm_keep (kPm_none _))))))))))).ctx (fun _ => rfl) (fun r2 u2 H2 locs2 hw2 hP2 hD2 hS2 => ?_)
      obtain ⟨Z7, kp7, ik7⟩ := u2
      obtain ⟨er2, wZ7, wkp7, wik7⟩ := hw2
      rw [← show _ = _ from wZ7] at hR1
      rw [← show _ = _ from wkp7] at hR1
      rw [← show _ = _ from wik7] at hR1
      have hP2 : va_P G.1 vwCl (cAll G n9 d sd h0 t0 t1 b0 s0 i0 e0 e1 e2 e3 aN aT aS0 aS1 pi aB L sg (upd ik 1 1) z tk en mo gN gT gS0 gN gB ++ mAll G Z7 sd h7 uq tx rp re pg tr bk kp7 ik7 sa se sm) H2 := hP2
      have hD2 : va_D A (cAll G n9 d sd h0 t0 t1 b0 s0 i0 e0 e1 e2 e3 aN aT aS0 aS1 pi aB L sg (upd ik 1 1) z tk en mo gN gT gS0 gN gB ++ mAll G Z7 sd h7 uq tx rp re pg tr bk kp7 ik7 sa se sm) := hD2
      refine lv_icmp_eq (tgt := 903) hx hb dL_law_852 (by decide) (fun _ => next _ _ ⟨_, _, _, _, _, _, _, _, _, _, _, _, _, _, _, _, _, _, _, _, _, _, _, _, _, _, _, hR1, hP2, hD2⟩ hS2) (fun c9 => absurd ((show r1 = _ from er1).trans (ea.trans (show r2 = _ from er2).symm)) c9)
    · skip
      obtain ⟨n14, bd, cL, ez, ⟨f1, f2, f3⟩, hw, hB, htx, hk, hv⟩ := id hR
      obtain ⟨ea, hR1⟩ := st_keep_x hR p0 c0 c1
      refine lv_aload_n hx hb dL_law_834 rfl (lv_at hl 2 rfl) ?_
      refine lw_arg kx hX hbl hbA hS hI hn hl (k := 1) (by decide) rfl g0 dL_law_835 dL_law_836 dL_law_837 dL_law_838 dL_law_839 ?_
      refine k_calli (kRunV (As := [.int p0]) (rest := []) kx (c_X6_keep_x l G (nI d) sd h0 t0 aN aT b0 s0 i0 e0 p0 c0 c1) q_648 q_645 q_29 q_646 q_647 nX6_keep ⟨Nat.le_of_ble_eq_true rfl, Nat.le_of_ble_eq_true rfl⟩ hK hP hD (kPm_left (kPm_left (kPm_keep (kPm_none _)))).ctx 0 6 rfl rfl rfl rfl hl.1 (Nat.le_of_ble_eq_true rfl) dL_law_840 hf) hP hD hS hA (kPm_left (kPm_left (kPm_keep (kPm_none _)))).ctx (fun _ => rfl) (fun r1 u1 H1 locs1 hw1 hP1 hD1 hS1 => ?_)
      have er1 := hw1
      have hP1 : va_P G.1 vwCl (cAll G n9 d sd h0 t0 t1 b0 s0 i0 e0 e1 e2 e3 aN aT aS0 aS1 pi aB L sg ik z tk en mo gN gT gS0 gS1 gB ++ mAll G Z sd h7 uq tx rp re pg tr bk kp jk sa se sm) H1 := hP1
      have hD1 : va_D A (cAll G n9 d sd h0 t0 t1 b0 s0 i0 e0 e1 e2 e3 aN aT aS0 aS1 pi aB L sg ik z tk en mo gN gT gS0 gS1 gB ++ mAll G Z sd h7 uq tx rp re pg tr bk kp jk sa se sm) := hD1
      refine lv_aload_n hx hb dL_law_843 rfl (lv_at hl 1 rfl) ?_
      refine lw_arg kx hX hbl hbA hS1 hI hn hl (k := 1) (by decide) rfl g0 dL_law_844 dL_law_845 dL_law_846 dL_law_847 dL_law_848 ?_
      have cz := c_X7_keep_x l G Z sd h7 (uq 1) (uq 2) (uq 3) (uq 4) (uq 5) (uq 6) (uq 7) (uq 8) (uq 9) (uq 10) (uq 11) p0 c0 c1
      refine k_calli (kRunV (As := [.int p0]) (rest := [.int r1]) kx cz q_973 q_970 q_36 q_971 q_972 nX7_keep ⟨Nat.le_of_ble_eq_true rfl, Nat.le_of_ble_eq_true rfl⟩ hK hP1 hD1 (kPm_skipB (kPm_keep (kPm_none _))).ctx 0 7 rfl rfl rfl rfl hl.1 (Nat.le_of_ble_eq_true rfl) dL_law_849 hf) hP1 hD1 hS1 hA (kPm_skipB (kPm_keep (kPm_none _))).ctx (fun _ => rfl) (fun r2 u2 H2 locs2 hw2 hP2 hD2 hS2 => ?_)
      have er2 := hw2
      have hP2 : va_P G.1 vwCl (cAll G n9 d sd h0 t0 t1 b0 s0 i0 e0 e1 e2 e3 aN aT aS0 aS1 pi aB L sg ik z tk en mo gN gT gS0 gS1 gB ++ mAll G (upd Z 0 0) sd h7 uq tx rp re pg tr bk kp jk sa se sm) H2 := hP2
      have hD2 : va_D A (cAll G n9 d sd h0 t0 t1 b0 s0 i0 e0 e1 e2 e3 aN aT aS0 aS1 pi aB L sg ik z tk en mo gN gT gS0 gS1 gB ++ mAll G (upd Z 0 0) sd h7 uq tx rp re pg tr bk kp jk sa se sm) := hD2
      refine lv_icmp_eq (tgt := 903) hx hb dL_law_852 (by decide) (fun _ => next _ _ ⟨_, _, _, _, _, _, _, _, _, _, _, _, _, _, _, _, _, _, _, _, _, _, _, _, _, _, _, hR1, hP2, hD2⟩ hS2) (fun c9 => absurd ((show r1 = _ from er1).trans (ea.trans (show r2 = _ from er2).symm)) c9)
set_option maxHeartbeats 4000000 in
set_option maxRecDepth 100000 in
theorem lw_again (kx : kX p s m args meth c cL_law 4 rr RL) (hK : kK G s) (hX : va_X b n0 xs s s.heap) (hbl : b < s.heap.size) (hbA : ¬ A b) (hA : ∀ q, s.heap.size ≤ q → A q) (hf : cells ≤ room_1.cells ∧ slots ≤ room_1.slots) (hS : va_S A s.heap H locs) (hI : I + 4 ≤ n0) (hn : n0 ≤ 2048) (hl : lv_has ls 4 [(3, .int (nI I)), (2, .ref h7), (1, .ref h0), (0, .ref b)]) (hs : lwS G n9 A h0 t0 t1 b0 s0 i0 e0 e1 e2 e3 aN aT aS0 aS1 aB h7 uq H) (next : ∀ (H1 : Heap) (locs1 : List Loc), lwS G n9 A h0 t0 t1 b0 s0 i0 e0 e1 e2 e3 aN aT aS0 aS1 aB h7 uq H1 → va_S A s.heap H1 locs1 → W p l e room_1 s m args below meth c H1 locs1 cells slots Qq (F0 m 903 ls [])) : W p l e room_1 s m args below meth c H locs cells slots Qq (F0 m 857 ls []) := by
  have hx := kx.1
  have hb := kx.2.1
  obtain ⟨d, sd, pi, L, sg, ik, z, tk, en, mo, gN, gT, gS0, gS1, gB, Z, tx, rp, re, pg, tr, bk, kp, jk, sa, se, sm, hR, hP, hD⟩ := hs
  obtain ⟨p0, g0⟩ : ∃ v, xs (I + 1) = v := ⟨_, rfl⟩
  by_cases c0 : p0 = 0
  · subst c0
    obtain ⟨n14, bd, cL, ez, ⟨f1, f2, f3⟩, hw, hB, htx, hk, hv⟩ := id hR
    obtain ⟨ea, d1, st_ac, hR1⟩ := st_again_0 hR
    refine lv_aload_n hx hb dL_law_857 rfl (lv_at hl 2 rfl) ?_
    refine lw_arg kx hX hbl hbA hS hI hn hl (k := 1) (by decide) rfl g0 dL_law_858 dL_law_859 dL_law_860 dL_law_861 dL_law_862 ?_
    refine k_calli (kRunV (As := [.int 0]) (rest := []) kx (c_X6_again_0 l G (nI d) sd h0 t0 aN aT b0 s0 i0 e0 aS0 aS1 ik gN gS0 gS1 hk.2.2.2.2.1) q_652 q_649 q_29 q_650 q_651 nX6_again ⟨Nat.le_of_ble_eq_true rfl, Nat.le_of_ble_eq_true rfl⟩ hK hP hD (kPm_left (kPm_app (kPm_keep (kPm_skip (kPm_skip (kPm_skip (kPm_keep (kPm_keep (kPm_none _))))))) (kPm_keepB (kPm_skipB (kPm_keepB (kPm_left (kPm_all _))))))).ctx 0 6 rfl rfl rfl rfl hl.1 (Nat.le_of_ble_eq_true rfl) dL_law_863 hf) hP hD hS hA (kPm_left (kPm_app (kPm_keep (kPm_skip (kPm_skip (kPm_skip (kPm_keep (kPm_keep (kPm_none _))))))) (kPm_keepB (kPm_skipB (kPm_keepB (kPm_left (kPm_all _))))))).ctx (fun _ => rfl) (fun r1 u1 H1 locs1 hw1 hP1 hD1 hS1 => ?_)
    obtain ⟨gN6, ac6⟩ := u1
    obtain ⟨er1, wgN6, wac6⟩ := hw1
    have wac6 : ac6 = kc (nI d1) := (show ac6 = _ from wac6).trans st_ac
    subst wac6
    have hP1 : va_P G.1 vwCl (cAll G n9 d1 sd h0 t0 t1 b0 s0 i0 e0 e1 e2 e3 aN aT aS0 aS1 pi aB L sg ik z tk en mo gN6 gT gS0 gS1 gB ++ mAll G Z sd h7 uq tx rp re pg tr bk kp jk sa se sm) H1 := hP1
    have hD1 : va_D A (cAll G n9 d1 sd h0 t0 t1 b0 s0 i0 e0 e1 e2 e3 aN aT aS0 aS1 pi aB L sg ik z tk en mo gN6 gT gS0 gS1 gB ++ mAll G Z sd h7 uq tx rp re pg tr bk kp jk sa se sm) := hD1
    rw [← show _ = _ from wgN6] at hR1
    refine lv_aload_n hx hb dL_law_866 rfl (lv_at hl 1 rfl) ?_
    refine lw_arg kx hX hbl hbA hS1 hI hn hl (k := 1) (by decide) rfl g0 dL_law_867 dL_law_868 dL_law_869 dL_law_870 dL_law_871 ?_
    have cz := c_X7_again_0 l G Z sd h7 (uq 1) (uq 2) (uq 3) (uq 4) (uq 5) (uq 6) (uq 7) (uq 8) (uq 9) (uq 10) (uq 11) pg kp jk
    refine k_calli (kRunV (As := [.int 0]) (rest := [.int r1]) kx cz q_977 q_974 q_36 q_975 q_976 nX7_again ⟨Nat.le_of_ble_eq_true rfl, Nat.le_of_ble_eq_true rfl⟩ hK hP1 hD1 (kPm_skipB (kPm_keep (kPm_skip (kPm_skip (kPm_skip (kPm_keep (kPm_skip (kPm_skip (kPm_keep (kPm_keep (kPm_none _))))))))))).ctx 0 7 rfl rfl rfl rfl hl.1 (Nat.le_of_ble_eq_true rfl) dL_law_872 hf) hP1 hD1 hS1 hA (kPm_skipB (kPm_keep (kPm_skip (kPm_skip (kPm_skip (kPm_keep (kPm_skip (kPm_skip (kPm_keep (kPm_keep (kPm_none _))))))))))).ctx (fun _ => rfl) (fun r2 u2 H2 locs2 hw2 hP2 hD2 hS2 => ?_)
    obtain ⟨Z7, pg7⟩ := u2
    obtain ⟨er2, wZ7, wpg7⟩ := hw2
    rw [← show _ = _ from wZ7] at hR1
    rw [← show _ = _ from wpg7] at hR1
    have hP2 : va_P G.1 vwCl (cAll G n9 d1 sd h0 t0 t1 b0 s0 i0 e0 e1 e2 e3 aN aT aS0 aS1 pi aB L sg ik z tk en mo gN6 gT gS0 gS1 gB ++ mAll G Z7 sd h7 uq tx rp re pg7 tr bk kp jk sa se sm) H2 := hP2
    have hD2 : va_D A (cAll G n9 d1 sd h0 t0 t1 b0 s0 i0 e0 e1 e2 e3 aN aT aS0 aS1 pi aB L sg ik z tk en mo gN6 gT gS0 gS1 gB ++ mAll G Z7 sd h7 uq tx rp re pg7 tr bk kp jk sa se sm) := hD2
    refine lv_icmp_eq (tgt := 903) hx hb dL_law_875 (by decide) (fun _ => next _ _ ⟨_, _, _, _, _, _, _, _, _, _, _, _, _, _, _, _, _, _, _, _, _, _, _, _, _, _, _, hR1, hP2, hD2⟩ hS2) (fun c9 => absurd ((show r1 = _ from er1).trans (ea.trans (show r2 = _ from er2).symm)) c9)
  · by_cases c1 : p0 = 1
    · subst c1
      obtain ⟨n14, bd, cL, ez, ⟨f1, f2, f3⟩, hw, hB, htx, hk, hv⟩ := id hR
      obtain ⟨ea, d1, st_ac, hR1⟩ := st_again_1 hR
      refine lv_aload_n hx hb dL_law_857 rfl (lv_at hl 2 rfl) ?_
      refine lw_arg kx hX hbl hbA hS hI hn hl (k := 1) (by decide) rfl g0 dL_law_858 dL_law_859 dL_law_860 dL_law_861 dL_law_862 ?_
      refine k_calli (kRunV (As := [.int 1]) (rest := []) kx (c_X6_again_1 l G (nI d) sd h0 t0 aN aT b0 s0 i0 e0 aS0 aS1 ik gN gS0 gS1 hk.2.2.2.2.2.1) q_652 q_649 q_29 q_650 q_651 nX6_again ⟨Nat.le_of_ble_eq_true rfl, Nat.le_of_ble_eq_true rfl⟩ hK hP hD (kPm_left (kPm_app (kPm_keep (kPm_skip (kPm_skip (kPm_skip (kPm_keep (kPm_keep (kPm_none _))))))) (kPm_keepB (kPm_skipB (kPm_keepB (kPm_left (kPm_all _))))))).ctx 0 6 rfl rfl rfl rfl hl.1 (Nat.le_of_ble_eq_true rfl) dL_law_863 hf) hP hD hS hA (kPm_left (kPm_app (kPm_keep (kPm_skip (kPm_skip (kPm_skip (kPm_keep (kPm_keep (kPm_none _))))))) (kPm_keepB (kPm_skipB (kPm_keepB (kPm_left (kPm_all _))))))).ctx (fun _ => rfl) (fun r1 u1 H1 locs1 hw1 hP1 hD1 hS1 => ?_)
      obtain ⟨gN6, ac6⟩ := u1
      obtain ⟨er1, wgN6, wac6⟩ := hw1
      have wac6 : ac6 = kc (nI d1) := (show ac6 = _ from wac6).trans st_ac
      subst wac6
      have hP1 : va_P G.1 vwCl (cAll G n9 d1 sd h0 t0 t1 b0 s0 i0 e0 e1 e2 e3 aN aT aS0 aS1 pi aB L sg ik z tk en mo gN6 gT gS0 gS1 gB ++ mAll G Z sd h7 uq tx rp re pg tr bk kp jk sa se sm) H1 := hP1
      have hD1 : va_D A (cAll G n9 d1 sd h0 t0 t1 b0 s0 i0 e0 e1 e2 e3 aN aT aS0 aS1 pi aB L sg ik z tk en mo gN6 gT gS0 gS1 gB ++ mAll G Z sd h7 uq tx rp re pg tr bk kp jk sa se sm) := hD1
      rw [← show _ = _ from wgN6] at hR1
      refine lv_aload_n hx hb dL_law_866 rfl (lv_at hl 1 rfl) ?_
      refine lw_arg kx hX hbl hbA hS1 hI hn hl (k := 1) (by decide) rfl g0 dL_law_867 dL_law_868 dL_law_869 dL_law_870 dL_law_871 ?_
      have cz := c_X7_again_1 l G Z sd h7 (uq 1) (uq 2) (uq 3) (uq 4) (uq 5) (uq 6) (uq 7) (uq 8) (uq 9) (uq 10) (uq 11) pg kp jk
      refine k_calli (kRunV (As := [.int 1]) (rest := [.int r1]) kx cz q_977 q_974 q_36 q_975 q_976 nX7_again ⟨Nat.le_of_ble_eq_true rfl, Nat.le_of_ble_eq_true rfl⟩ hK hP1 hD1 (kPm_skipB (kPm_keep (kPm_skip (kPm_skip (kPm_skip (kPm_keep (kPm_skip (kPm_skip (kPm_keep (kPm_keep (kPm_none _))))))))))).ctx 0 7 rfl rfl rfl rfl hl.1 (Nat.le_of_ble_eq_true rfl) dL_law_872 hf) hP1 hD1 hS1 hA (kPm_skipB (kPm_keep (kPm_skip (kPm_skip (kPm_skip (kPm_keep (kPm_skip (kPm_skip (kPm_keep (kPm_keep (kPm_none _))))))))))).ctx (fun _ => rfl) (fun r2 u2 H2 locs2 hw2 hP2 hD2 hS2 => ?_)
      obtain ⟨Z7, pg7⟩ := u2
      obtain ⟨er2, wZ7, wpg7⟩ := hw2
      rw [← show _ = _ from wZ7] at hR1
      rw [← show _ = _ from wpg7] at hR1
      have hP2 : va_P G.1 vwCl (cAll G n9 d1 sd h0 t0 t1 b0 s0 i0 e0 e1 e2 e3 aN aT aS0 aS1 pi aB L sg ik z tk en mo gN6 gT gS0 gS1 gB ++ mAll G Z7 sd h7 uq tx rp re pg7 tr bk kp jk sa se sm) H2 := hP2
      have hD2 : va_D A (cAll G n9 d1 sd h0 t0 t1 b0 s0 i0 e0 e1 e2 e3 aN aT aS0 aS1 pi aB L sg ik z tk en mo gN6 gT gS0 gS1 gB ++ mAll G Z7 sd h7 uq tx rp re pg7 tr bk kp jk sa se sm) := hD2
      refine lv_icmp_eq (tgt := 903) hx hb dL_law_875 (by decide) (fun _ => next _ _ ⟨_, _, _, _, _, _, _, _, _, _, _, _, _, _, _, _, _, _, _, _, _, _, _, _, _, _, _, hR1, hP2, hD2⟩ hS2) (fun c9 => absurd ((show r1 = _ from er1).trans (ea.trans (show r2 = _ from er2).symm)) c9)
    · skip
      obtain ⟨n14, bd, cL, ez, ⟨f1, f2, f3⟩, hw, hB, htx, hk, hv⟩ := id hR
      obtain ⟨ea, hR1⟩ := st_again_x hR p0 c0 c1
      refine lv_aload_n hx hb dL_law_857 rfl (lv_at hl 2 rfl) ?_
      refine lw_arg kx hX hbl hbA hS hI hn hl (k := 1) (by decide) rfl g0 dL_law_858 dL_law_859 dL_law_860 dL_law_861 dL_law_862 ?_
      refine k_calli (kRunV (As := [.int p0]) (rest := []) kx (c_X6_again_x l G (nI d) sd h0 t0 aN aT b0 s0 i0 e0 p0 c0 c1) q_652 q_649 q_29 q_650 q_651 nX6_again ⟨Nat.le_of_ble_eq_true rfl, Nat.le_of_ble_eq_true rfl⟩ hK hP hD (kPm_left (kPm_left (kPm_keep (kPm_none _)))).ctx 0 6 rfl rfl rfl rfl hl.1 (Nat.le_of_ble_eq_true rfl) dL_law_863 hf) hP hD hS hA (kPm_left (kPm_left (kPm_keep (kPm_none _)))).ctx (fun _ => rfl) (fun r1 u1 H1 locs1 hw1 hP1 hD1 hS1 => ?_)
      have er1 := hw1
      have hP1 : va_P G.1 vwCl (cAll G n9 d sd h0 t0 t1 b0 s0 i0 e0 e1 e2 e3 aN aT aS0 aS1 pi aB L sg ik z tk en mo gN gT gS0 gS1 gB ++ mAll G Z sd h7 uq tx rp re pg tr bk kp jk sa se sm) H1 := hP1
      have hD1 : va_D A (cAll G n9 d sd h0 t0 t1 b0 s0 i0 e0 e1 e2 e3 aN aT aS0 aS1 pi aB L sg ik z tk en mo gN gT gS0 gS1 gB ++ mAll G Z sd h7 uq tx rp re pg tr bk kp jk sa se sm) := hD1
      refine lv_aload_n hx hb dL_law_866 rfl (lv_at hl 1 rfl) ?_
      refine lw_arg kx hX hbl hbA hS1 hI hn hl (k := 1) (by decide) rfl g0 dL_law_867 dL_law_868 dL_law_869 dL_law_870 dL_law_871 ?_
      have cz := c_X7_again_x l G Z sd h7 (uq 1) (uq 2) (uq 3) (uq 4) (uq 5) (uq 6) (uq 7) (uq 8) (uq 9) (uq 10) (uq 11) p0 c0 c1
      refine k_calli (kRunV (As := [.int p0]) (rest := [.int r1]) kx cz q_977 q_974 q_36 q_975 q_976 nX7_again ⟨Nat.le_of_ble_eq_true rfl, Nat.le_of_ble_eq_true rfl⟩ hK hP1 hD1 (kPm_skipB (kPm_keep (kPm_none _))).ctx 0 7 rfl rfl rfl rfl hl.1 (Nat.le_of_ble_eq_true rfl) dL_law_872 hf) hP1 hD1 hS1 hA (kPm_skipB (kPm_keep (kPm_none _))).ctx (fun _ => rfl) (fun r2 u2 H2 locs2 hw2 hP2 hD2 hS2 => ?_)
      have er2 := hw2
      have hP2 : va_P G.1 vwCl (cAll G n9 d sd h0 t0 t1 b0 s0 i0 e0 e1 e2 e3 aN aT aS0 aS1 pi aB L sg ik z tk en mo gN gT gS0 gS1 gB ++ mAll G (upd Z 0 0) sd h7 uq tx rp re pg tr bk kp jk sa se sm) H2 := hP2
      have hD2 : va_D A (cAll G n9 d sd h0 t0 t1 b0 s0 i0 e0 e1 e2 e3 aN aT aS0 aS1 pi aB L sg ik z tk en mo gN gT gS0 gS1 gB ++ mAll G (upd Z 0 0) sd h7 uq tx rp re pg tr bk kp jk sa se sm) := hD2
      refine lv_icmp_eq (tgt := 903) hx hb dL_law_875 (by decide) (fun _ => next _ _ ⟨_, _, _, _, _, _, _, _, _, _, _, _, _, _, _, _, _, _, _, _, _, _, _, _, _, _, _, hR1, hP2, hD2⟩ hS2) (fun c9 => absurd ((show r1 = _ from er1).trans (ea.trans (show r2 = _ from er2).symm)) c9)
end LW
