/-! cells in another order; worlds in a row -/
theorem kP_mem {D : va_G} {cl : List vw_C} {ws : va_W} {H : Heap} : va_P D cl ws H ↔ ∀ q ∈ ws, va_at D cl q H :=
  ⟨fun h q hq => by
    obtain ⟨k, hk⟩ := List.mem_iff_getElem?.mp hq
    exact h k q hk, fun h k q hk => h q (List.mem_of_getElem? hk)⟩
theorem kD_pw {A : Nat → Prop} {ws : va_W} : va_D A ws ↔ ws.Pairwise (fun a b => a.1 ≠ b.1) ∧ ∀ q ∈ ws, A q.1 := by
  constructor
  · intro h
    refine ⟨List.pairwise_iff_getElem.mpr (fun i j hi hj hij e => ?_), fun q hq => ?_⟩
    · have := h.1 i j _ _ (List.getElem?_eq_getElem hi) (List.getElem?_eq_getElem hj) e
      omega
    · obtain ⟨k, hk⟩ := List.mem_iff_getElem?.mp hq
      exact h.2 k q hk
  · intro h
    have hp := List.pairwise_iff_getElem.mp h.1
    refine ⟨fun i j p q hi hj e => ?_, fun k q hk => h.2 q (List.mem_of_getElem? hk)⟩
    obtain ⟨hi', rfl⟩ := List.getElem?_eq_some_iff.mp hi
    obtain ⟨hj', rfl⟩ := List.getElem?_eq_some_iff.mp hj
    rcases Nat.lt_trichotomy i j with q | q | q
    · exact absurd e (hp i j hi' hj' q)
    · exact q
    · exact absurd e.symm (hp j i hj' hi' q)
theorem kP_perm {D : va_G} {cl : List vw_C} {ws ws' : va_W} {H : Heap} (h : ws.Perm ws') (hP : va_P D cl ws H) : va_P D cl ws' H := kP_mem.mpr (fun q hq => kP_mem.mp hP q (h.mem_iff.mpr hq))
theorem kD_perm {A : Nat → Prop} {ws ws' : va_W} (h : ws.Perm ws') (hD : va_D A ws) : va_D A ws' := by
  obtain ⟨h1, h2⟩ := kD_pw.mp hD
  exact kD_pw.mpr ⟨(h.pairwise_iff (fun {x y} hxy e => hxy e.symm)).mp h1, fun q hq => h2 q (h.mem_iff.mpr hq)⟩
theorem kCtx_permF {ws wc r : va_W} {F : va_W → va_W} (h : ws.Perm (wc ++ r)) (hF : ∀ w1 : va_W, wc.length = w1.length → (w1 ++ r).Perm (F w1)) : kCtx ws wc F := by
  intro D cl A0 H hP hD
  obtain ⟨h1, h2, h3⟩ := kCtx_front wc r D cl A0 H (kP_perm h hP) (kD_perm h hD)
  refine ⟨h1, h2, fun H1 w1 hl hk hF' hP1 hD1 => ?_⟩
  obtain ⟨g1, g2⟩ := h3 H1 w1 hl hk hF' hP1 hD1
  exact ⟨kP_perm (hF w1 hl) g1, kD_perm (hF w1 hl) g2⟩
theorem kCtx_perm0 {ws wc r : va_W} (h : ws.Perm (wc ++ r)) : kCtx ws wc (fun w => w ++ r) := kCtx_permF h (fun _ _ => List.Perm.refl _)
theorem kCtx_two (a b r : va_W) : kCtx (a ++ (b ++ r)) (a ++ b) (fun w => w.take a.length ++ (w.drop a.length ++ r)) :=
  kCtx_permF (r := r) (by rw [List.append_assoc]) (fun w1 _ => by rw [← List.append_assoc, List.take_append_drop])
/-- some of the cells, in their order; F puts others in their places -/
def kPm (ws wc : va_W) (F : va_W → va_W) : Prop := ∃ r : va_W, ws.Perm (wc ++ r) ∧ ∀ w1 : va_W, wc.length = w1.length → (w1 ++ r).Perm (F w1)
theorem kPm.ctx {ws wc : va_W} {F : va_W → va_W} (h : kPm ws wc F) : kCtx ws wc F := by
  obtain ⟨r, h1, h2⟩ := h
  exact kCtx_permF h1 h2
def kHd (F : va_W → va_W) : va_W → va_W
  | [] => []
  | y :: w => y :: F w
theorem kPm_none (ws : va_W) : kPm ws [] (fun _ => ws) := ⟨ws, List.Perm.refl _, fun w1 h => by
  cases w1 with
  | nil => exact List.Perm.refl _
  | cons _ _ => simp at h⟩
theorem kPm_keep {x : Nat × va_E} {ws wc : va_W} {F : va_W → va_W} (h : kPm ws wc F) : kPm (x :: ws) (x :: wc) (kHd F) := by
  obtain ⟨r, h1, h2⟩ := h
  refine ⟨r, h1.cons x, fun w1 hl => ?_⟩
  cases w1 with
  | nil => simp at hl
  | cons y w => exact (h2 w (by simpa using hl)).cons y
theorem kPm_skip {x : Nat × va_E} {ws wc : va_W} {F : va_W → va_W} (h : kPm ws wc F) : kPm (x :: ws) wc (fun w => x :: F w) := by
  obtain ⟨r, h1, h2⟩ := h
  exact ⟨x :: r, (h1.cons x).trans List.perm_middle.symm, fun w1 hl => List.perm_middle.trans ((h2 w1 hl).cons x)⟩
theorem kPm_keepB {B ws wc : va_W} {F : va_W → va_W} (h : kPm ws wc F) : kPm (B ++ ws) (B ++ wc) (fun w => w.take B.length ++ F (w.drop B.length)) := by
  obtain ⟨r, h1, h2⟩ := h
  refine ⟨r, by rw [List.append_assoc]; exact h1.append_left B, fun w1 hl => ?_⟩
  have hl2 : wc.length = (w1.drop B.length).length := by
    rw [List.length_append] at hl
    rw [List.length_drop]
    omega
  have := (h2 _ hl2).append_left (w1.take B.length)
  rw [← List.append_assoc, List.take_append_drop] at this
  exact this
theorem kPm_skipB {B ws wc : va_W} {F : va_W → va_W} (h : kPm ws wc F) : kPm (B ++ ws) wc (fun w => B ++ F w) := by
  obtain ⟨r, h1, h2⟩ := h
  exact ⟨B ++ r, (h1.append_left B).trans (List.perm_append_comm_assoc B wc r), fun w1 hl => (List.perm_append_comm_assoc w1 B r).trans ((h2 w1 hl).append_left B)⟩
theorem kPm_all (ws : va_W) : kPm ws ws (fun w => w) := ⟨[], by rw [List.append_nil], fun w1 _ => by rw [List.append_nil]⟩
theorem kPm_app {X xc B bc : va_W} {Fx Fb : va_W → va_W} (hx : kPm X xc Fx) (hb : kPm B bc Fb) : kPm (X ++ B) (xc ++ bc) (fun w => Fx (w.take xc.length) ++ Fb (w.drop xc.length)) := by
  obtain ⟨r, h1, h2⟩ := hx
  obtain ⟨t, g1, g2⟩ := hb
  have mid : ∀ a b : va_W, ((a ++ r) ++ (b ++ t)).Perm ((a ++ b) ++ (r ++ t)) := fun a b => by
    rw [List.append_assoc, List.append_assoc]
    exact (List.perm_append_comm_assoc r b t).append_left a
  refine ⟨r ++ t, (h1.append g1).trans (mid xc bc), fun w1 hl => ?_⟩
  rw [List.length_append] at hl
  have e1 : xc.length = (w1.take xc.length).length := by rw [List.length_take]; omega
  have e2 : bc.length = (w1.drop xc.length).length := by rw [List.length_drop]; omega
  have := (mid (w1.take xc.length) (w1.drop xc.length)).symm.trans ((h2 _ e1).append (g2 _ e2))
  rw [List.take_append_drop] at this
  exact this
theorem kPm_left {X xc B : va_W} {Fx : va_W → va_W} (hx : kPm X xc Fx) : kPm (X ++ B) xc (fun w => Fx w ++ B) := by
  obtain ⟨r, h1, h2⟩ := hx
  exact ⟨r ++ B, by rw [← List.append_assoc]; exact h1.append_right B, fun w1 hl => by rw [← List.append_assoc]; exact (h2 w1 hl).append_right B⟩
theorem kPm_swap {ws a b : va_W} {F : va_W → va_W} (h : kPm ws (a ++ b) F) : kPm ws (b ++ a) (fun w => F (w.drop b.length ++ w.take b.length)) := by
  obtain ⟨r, h1, h2⟩ := h
  refine ⟨r, h1.trans (List.perm_append_comm.append_right r), fun w1 hl => ?_⟩
  have hl2 : (a ++ b).length = (w1.drop b.length ++ w1.take b.length).length := by
    rw [List.length_append] at hl ⊢
    rw [List.length_append, List.length_drop, List.length_take]
    omega
  refine List.Perm.trans ?_ (h2 _ hl2)
  have : (w1.take b.length ++ w1.drop b.length).Perm (w1.drop b.length ++ w1.take b.length) := List.perm_append_comm
  rw [List.take_append_drop] at this
  exact this.append_right r
/-- worlds in a row -/
def kWs (aB : Nat → Nat → Nat) (gB : Nat → Nat → Nat → Int32) : Nat → va_W
  | 0 => []
  | n + 1 => kWs aB gB n ++ cW (aB n) (gB n)
/-- the same without the one at j -/
def kWsO (aB : Nat → Nat → Nat) (gB : Nat → Nat → Nat → Int32) (j : Nat) : Nat → va_W
  | 0 => []
  | n + 1 => if n = j then kWsO aB gB j n else kWsO aB gB j n ++ cW (aB n) (gB n)
theorem kWsO_eq (aB : Nat → Nat → Nat) (gB : Nat → Nat → Nat → Int32) (j : Nat) : ∀ n, n ≤ j → kWsO aB gB j n = kWs aB gB n
  | 0, _ => rfl
  | n + 1, h => by rw [kWsO, kWs, if_neg (by omega), kWsO_eq aB gB j n (by omega)]
theorem kWs_open {aB : Nat → Nat → Nat} {gB : Nat → Nat → Nat → Int32} {j : Nat} : ∀ {n : Nat}, j < n → (kWs aB gB n).Perm (cW (aB j) (gB j) ++ kWsO aB gB j n)
  | 0, h => absurd h (by omega)
  | n + 1, h => by
    rw [kWs, kWsO]
    by_cases hj : n = j
    · subst hj
      rw [if_pos rfl, kWsO_eq aB gB n n (Nat.le_refl _)]
      exact List.perm_append_comm
    · rw [if_neg hj, ← List.append_assoc]
      exact List.Perm.append_right _ (kWs_open (by omega))
theorem kWsO_up {aB : Nat → Nat → Nat} {gB : Nat → Nat → Nat → Int32} {j : Nat} {x : Nat → Nat → Int32} : ∀ n, kWsO aB (va_up gB j x) j n = kWsO aB gB j n
  | 0 => rfl
  | n + 1 => by
    rw [kWsO, kWsO, kWsO_up n]
    by_cases hj : n = j
    · rw [if_pos hj, if_pos hj]
    · rw [if_neg hj, if_neg hj]
      unfold va_up
      rw [if_neg hj]
theorem kWs_close {aB : Nat → Nat → Nat} {gB : Nat → Nat → Nat → Int32} {j : Nat} {x : Nat → Nat → Int32} {n : Nat} (h : j < n) : (cW (aB j) x ++ kWsO aB gB j n).Perm (kWs aB (va_up gB j x) n) := by
  have := kWs_open (aB := aB) (gB := va_up gB j x) h
  rw [kWsO_up, show va_up gB j x j = x from if_pos rfl] at this
  exact this.symm
theorem kWs_len (aB : Nat → Nat → Nat) (gB : Nat → Nat → Nat → Int32) : ∀ n, (kWs aB gB n).length = 9 * n
  | 0 => rfl
  | n + 1 => by rw [kWs, List.length_append, kWs_len aB gB n]; show 9 * n + 9 = _; omega
theorem kWs_at {aB : Nat → Nat → Nat} {gB : Nat → Nat → Nat → Int32} {j : Nat} : ∀ {n : Nat}, j < n → (kWs aB gB n)[9 * j]? = some (aB j 0, .inr (5, cD (gB j 4) (aB j 1) (aB j 3) (aB j 5) (aB j 7)))
  | 0, h => absurd h (by omega)
  | n + 1, h => by
    rw [kWs]
    by_cases hj : n = j
    · subst hj
      have := kapp_r (a := kWs aB gB n) (b := cW (aB n) (gB n)) (k := 0) (q := (aB n 0, .inr (5, cD (gB n 4) (aB n 1) (aB n 3) (aB n 5) (aB n 7)))) rfl
      rw [kWs_len] at this
      exact this
    · exact kapp_l (kWs_at (by omega))
theorem lt14 {n j : Nat} (h : n = 14) (hj : j < 14) : j < n := by omega
/-- the row of the worlds ahead of the acts: which world stands at which place -/
abbrev kAO (aB : Nat → Nat → Nat) (pi : Nat → Nat) : Nat → Option Nat := fun i => some (aB (pi i) 0)
def kRot (pi : Nat → Nat) : Nat → Nat := fun i => if i < 13 then pi (i + 1) else if i = 13 then pi 0 else pi i
def kPi (d : Nat) (pi : Nat → Nat) : Nat → Nat := if d = 14 then kRot pi else pi
theorem kRot_lt {pi : Nat → Nat} (h : ∀ i, i < 14 → pi i < 14) : ∀ i, i < 14 → kRot pi i < 14 := by
  intro i hi
  unfold kRot
  split
  · exact h _ (by omega)
  · split
    · exact h _ (by omega)
    · exact h _ hi
theorem kPi_lt {pi : Nat → Nat} {d : Nat} (h : ∀ i, i < 14 → pi i < 14) : ∀ i, i < 14 → kPi d pi i < 14 := by
  unfold kPi
  split
  · exact kRot_lt h
  · exact h
theorem kRot_eq (aB : Nat → Nat → Nat) (pi : Nat → Nat) : va_up (va_up (va_up (va_up (va_up (va_up (va_up (va_up (va_up (va_up (va_up (va_up (va_up (va_up (kAO aB pi) 0 (some (aB (pi 1) 0))) 1 (some (aB (pi 2) 0))) 2 (some (aB (pi 3) 0))) 3 (some (aB (pi 4) 0))) 4 (some (aB (pi 5) 0))) 5 (some (aB (pi 6) 0))) 6 (some (aB (pi 7) 0))) 7 (some (aB (pi 8) 0))) 8 (some (aB (pi 9) 0))) 9 (some (aB (pi 10) 0))) 10 (some (aB (pi 11) 0))) 11 (some (aB (pi 12) 0))) 12 (some (aB (pi 13) 0))) 13 (some (aB (pi 0) 0)) = kAO aB (kRot pi) := by
  funext i
  match i with
  | 0 => rfl
  | 1 => rfl
  | 2 => rfl
  | 3 => rfl
  | 4 => rfl
  | 5 => rfl
  | 6 => rfl
  | 7 => rfl
  | 8 => rfl
  | 9 => rfl
  | 10 => rfl
  | 11 => rfl
  | 12 => rfl
  | 13 => rfl
  | n + 14 =>
    have e : kRot pi (n + 14) = pi (n + 14) := by unfold kRot; rw [if_neg (by omega), if_neg (by omega)]
    show _ = some (aB (kRot pi (n + 14)) 0)
    rw [e]
    simp only [va_up]
    iterate 14 rw [if_neg (by omega)]
theorem kge1 {d : Nat} (hd : d ≤ 14) (h : ¬ nI d < 1) : 1 ≤ d := by
  rcases Nat.eq_zero_or_pos d with q | q
  · subst q
    exact absurd (by decide) h
  · exact q

set_option maxHeartbeats 4000000 in
set_option maxRecDepth 100000 in
theorem c_X6_forgetFirstAct (l : Launch) (G : kG) (ac : Nat → Int32) (sd : Int64) (h0 : Nat) (t0 : Nat) (aN : Nat → Nat) (aT : Nat → Nat) (b0 : Nat) (s0 : Nat) (i0 : Nat) (e0 : Nat) (n9 : Nat) (pi : Nat → Nat) (aB : Nat → Nat → Nat) (gN : Nat → Nat → Int32) (gB : Nat → Nat → Nat → Int32) (hpi : ∀ i, i < 14 → pi i < 14) (h14 : n9 = 14) : cG l G yX6_forgetFirstAct cX6_forgetFirstAct 3 none 0 [.ref h0] ([(h0, .inr (6, cQ ac t0 (aN 0) (aT 0) b0 s0 i0 e0 sd)), (b0, .inl (G.2.2.2, 14, .inr (.inr (.inr (.inr (kAO aB pi))))))] ++ (cW aN gN ++ (kWs aB gB n9))) (qV G (fun _ : Unit => True) (fun _ => [(h0, .inr (6, cQ (upd ac 0 13) t0 (aN 0) (aT 0) b0 s0 i0 e0 sd)), (b0, .inl (G.2.2.2, 14, .inr (.inr (.inr (.inr (kAO aB (kRot pi)))))))] ++ (cW aN gN ++ (kWs aB gB n9)))) := by
  refine kintro (by decide) (Nat.le_of_ble_eq_true rfl) ?_
  intro p e s m args below meth c A ls kx hK hP hD hS hA hl
  have kx : kX p s m args meth c cX6_forgetFirstAct 3 none RX6 := kx
  have hx := kx.1
  have hb := kx.2.1
  have hown := kx.2.2.2.2.1
  have ht := kx.2.2.2.2.2.2
  have hl : lv_has ls 3 [(0, .ref h0)] := hl
  refine lv_aload_n hx hb dX6_forgetFirstAct_0 rfl (lv_at hl 0 rfl) ?_
  refine va_get (ci := 6) (v := .ref b0) (C := RX6) (T := TX6) (N := 9) hx hb ht inX6 hown hK.1 hP 0 rfl rfl 3 (by decide) (ht _ q_266) (fun _ h9 => h9) rfl dX6_forgetFirstAct_1 ?_
  refine lv_iconst (v := 0) hx hb dX6_forgetFirstAct_4 (by decide) ?_
  refine k_aald (v := (aB (pi 0)) 0) kx hK hP 1 rfl 0 rfl (by decide) (by decide) rfl dX6_forgetFirstAct_5 ?_
  refine lv_astore_n (lv' := [(1, .ref ((aB (pi 0)) 0)), (0, .ref h0)]) hx hb dX6_forgetFirstAct_6 rfl hl (by decide) rfl (fun ls1 hl1 => ?_)
  refine lv_iconst (v := 1) hx hb dX6_forgetFirstAct_7 (by decide) ?_
  refine lv_istore_n (lv' := [(2, .int 1), (1, .ref ((aB (pi 0)) 0)), (0, .ref h0)]) hx hb dX6_forgetFirstAct_8 rfl hl1 (by decide) rfl (fun ls2 hl2 => ?_)
  refine lv_iload_n hx hb dX6_forgetFirstAct_9 rfl (lv_at hl2 0 rfl) ?_
  refine lv_bipush (v := 14) hx hb dX6_forgetFirstAct_10 (by decide) ?_
  refine lv_icmp_ge (x := 1) (y := 14) (tgt := 35) hx hb dX6_forgetFirstAct_12 (by decide) (fun (c1 : 14 ≤ 1) => absurd c1 (by decide)) (fun (c1 : ¬ (14 ≤ 1)) => ?_)
  refine lv_aload_n hx hb dX6_forgetFirstAct_15 rfl (lv_at hl2 2 rfl) ?_
  refine va_get (ci := 6) (v := .ref b0) (C := RX6) (T := TX6) (N := 9) hx hb ht inX6 hown hK.1 hP 0 rfl rfl 3 (by decide) (ht _ q_266) (fun _ h9 => h9) rfl dX6_forgetFirstAct_16 ?_
  refine lv_iload_n hx hb dX6_forgetFirstAct_19 rfl (lv_at hl2 0 rfl) ?_
  refine lv_iconst (v := 1) hx hb dX6_forgetFirstAct_20 (by decide) ?_
  refine lv_isub hx hb dX6_forgetFirstAct_21 ?_
  refine k_top (y := 0) (by decide +kernel) ?_
  refine lv_aload_n hx hb dX6_forgetFirstAct_22 rfl (lv_at hl2 2 rfl) ?_
  refine va_get (ci := 6) (v := .ref b0) (C := RX6) (T := TX6) (N := 9) hx hb ht inX6 hown hK.1 hP 0 rfl rfl 3 (by decide) (ht _ q_266) (fun _ h9 => h9) rfl dX6_forgetFirstAct_23 ?_
  refine lv_iload_n hx hb dX6_forgetFirstAct_26 rfl (lv_at hl2 0 rfl) ?_
  refine k_aald (v := (aB (pi 1)) 0) kx hK hP 1 rfl 1 rfl (by decide) (by decide) rfl dX6_forgetFirstAct_27 ?_
  refine k_aast kx hK hP hD hS 1 (2 + (9 + 9 * (pi 1))) rfl (kapp_r (kapp_r (kWs_at (lt14 h14 (hpi _ (by decide)))))) 0 rfl (by decide) (by decide) dX6_forgetFirstAct_28 (fun H3 locs3 hP3 hD3 hS3 => ?_)
  have hP4 : va_P G.1 vwCl ([(h0, .inr (6, cQ ac t0 (aN 0) (aT 0) b0 s0 i0 e0 sd)), (b0, .inl (G.2.2.2, 14, .inr (.inr (.inr (.inr (va_up (kAO aB pi) 0 (some ((aB (pi 1)) 0))))))))] ++ (cW aN gN ++ (kWs aB gB n9))) H3 := hP3
  have hD5 : va_D A ([(h0, .inr (6, cQ ac t0 (aN 0) (aT 0) b0 s0 i0 e0 sd)), (b0, .inl (G.2.2.2, 14, .inr (.inr (.inr (.inr (va_up (kAO aB pi) 0 (some ((aB (pi 1)) 0))))))))] ++ (cW aN gN ++ (kWs aB gB n9))) := hD3
  refine lv_iinc (v := 2) (lv' := [(2, .int 2), (1, .ref ((aB (pi 0)) 0)), (0, .ref h0)]) hx hb dX6_forgetFirstAct_29 hl2 (k := 0) rfl (by decide +kernel) (by decide) rfl (fun ls6 hl6 => ?_)
  refine lv_goto (tgt := 9) hx hb dX6_forgetFirstAct_32 (by decide) ?_
  refine lv_iload_n hx hb dX6_forgetFirstAct_9 rfl (lv_at hl6 0 rfl) ?_
  refine lv_bipush (v := 14) hx hb dX6_forgetFirstAct_10 (by decide) ?_
  refine lv_icmp_ge (x := 2) (y := 14) (tgt := 35) hx hb dX6_forgetFirstAct_12 (by decide) (fun (c2 : 14 ≤ 2) => absurd c2 (by decide)) (fun (c2 : ¬ (14 ≤ 2)) => ?_)
  refine lv_aload_n hx hb dX6_forgetFirstAct_15 rfl (lv_at hl6 2 rfl) ?_
  refine va_get (ci := 6) (v := .ref b0) (C := RX6) (T := TX6) (N := 9) hx hb ht inX6 hown hK.1 hP4 0 rfl rfl 3 (by decide) (ht _ q_266) (fun _ h9 => h9) rfl dX6_forgetFirstAct_16 ?_
  refine lv_iload_n hx hb dX6_forgetFirstAct_19 rfl (lv_at hl6 0 rfl) ?_
  refine lv_iconst (v := 1) hx hb dX6_forgetFirstAct_20 (by decide) ?_
  refine lv_isub hx hb dX6_forgetFirstAct_21 ?_
  refine k_top (y := 1) (by decide +kernel) ?_
  refine lv_aload_n hx hb dX6_forgetFirstAct_22 rfl (lv_at hl6 2 rfl) ?_
  refine va_get (ci := 6) (v := .ref b0) (C := RX6) (T := TX6) (N := 9) hx hb ht inX6 hown hK.1 hP4 0 rfl rfl 3 (by decide) (ht _ q_266) (fun _ h9 => h9) rfl dX6_forgetFirstAct_23 ?_
  refine lv_iload_n hx hb dX6_forgetFirstAct_26 rfl (lv_at hl6 0 rfl) ?_
  refine k_aald (v := (aB (pi 2)) 0) kx hK hP4 1 rfl 2 rfl (by decide) (by decide) rfl dX6_forgetFirstAct_27 ?_
  refine k_aast kx hK hP4 hD5 hS3 1 (2 + (9 + 9 * (pi 2))) rfl (kapp_r (kapp_r (kWs_at (lt14 h14 (hpi _ (by decide)))))) 1 rfl (by decide) (by decide) dX6_forgetFirstAct_28 (fun H7 locs7 hP7 hD7 hS7 => ?_)
  have hP8 : va_P G.1 vwCl ([(h0, .inr (6, cQ ac t0 (aN 0) (aT 0) b0 s0 i0 e0 sd)), (b0, .inl (G.2.2.2, 14, .inr (.inr (.inr (.inr (va_up (va_up (kAO aB pi) 0 (some ((aB (pi 1)) 0))) 1 (some ((aB (pi 2)) 0))))))))] ++ (cW aN gN ++ (kWs aB gB n9))) H7 := hP7
  have hD9 : va_D A ([(h0, .inr (6, cQ ac t0 (aN 0) (aT 0) b0 s0 i0 e0 sd)), (b0, .inl (G.2.2.2, 14, .inr (.inr (.inr (.inr (va_up (va_up (kAO aB pi) 0 (some ((aB (pi 1)) 0))) 1 (some ((aB (pi 2)) 0))))))))] ++ (cW aN gN ++ (kWs aB gB n9))) := hD7
  refine lv_iinc (v := 3) (lv' := [(2, .int 3), (1, .ref ((aB (pi 0)) 0)), (0, .ref h0)]) hx hb dX6_forgetFirstAct_29 hl6 (k := 0) rfl (by decide +kernel) (by decide) rfl (fun ls10 hl10 => ?_)
  refine lv_goto (tgt := 9) hx hb dX6_forgetFirstAct_32 (by decide) ?_
  refine lv_iload_n hx hb dX6_forgetFirstAct_9 rfl (lv_at hl10 0 rfl) ?_
  refine lv_bipush (v := 14) hx hb dX6_forgetFirstAct_10 (by decide) ?_
  refine lv_icmp_ge (x := 3) (y := 14) (tgt := 35) hx hb dX6_forgetFirstAct_12 (by decide) (fun (c3 : 14 ≤ 3) => absurd c3 (by decide)) (fun (c3 : ¬ (14 ≤ 3)) => ?_)
  refine lv_aload_n hx hb dX6_forgetFirstAct_15 rfl (lv_at hl10 2 rfl) ?_
  refine va_get (ci := 6) (v := .ref b0) (C := RX6) (T := TX6) (N := 9) hx hb ht inX6 hown hK.1 hP8 0 rfl rfl 3 (by decide) (ht _ q_266) (fun _ h9 => h9) rfl dX6_forgetFirstAct_16 ?_
  refine lv_iload_n hx hb dX6_forgetFirstAct_19 rfl (lv_at hl10 0 rfl) ?_
  refine lv_iconst (v := 1) hx hb dX6_forgetFirstAct_20 (by decide) ?_
  refine lv_isub hx hb dX6_forgetFirstAct_21 ?_
  refine k_top (y := 2) (by decide +kernel) ?_
  refine lv_aload_n hx hb dX6_forgetFirstAct_22 rfl (lv_at hl10 2 rfl) ?_
  refine va_get (ci := 6) (v := .ref b0) (C := RX6) (T := TX6) (N := 9) hx hb ht inX6 hown hK.1 hP8 0 rfl rfl 3 (by decide) (ht _ q_266) (fun _ h9 => h9) rfl dX6_forgetFirstAct_23 ?_
  refine lv_iload_n hx hb dX6_forgetFirstAct_26 rfl (lv_at hl10 0 rfl) ?_
  refine k_aald (v := (aB (pi 3)) 0) kx hK hP8 1 rfl 3 rfl (by decide) (by decide) rfl dX6_forgetFirstAct_27 ?_
  refine k_aast kx hK hP8 hD9 hS7 1 (2 + (9 + 9 * (pi 3))) rfl (kapp_r (kapp_r (kWs_at (lt14 h14 (hpi _ (by decide)))))) 2 rfl (by decide) (by decide) dX6_forgetFirstAct_28 (fun H11 locs11 hP11 hD11 hS11 => ?_)
  have hP12 : va_P G.1 vwCl ([(h0, .inr (6, cQ ac t0 (aN 0) (aT 0) b0 s0 i0 e0 sd)), (b0, .inl (G.2.2.2, 14, .inr (.inr (.inr (.inr (va_up (va_up (va_up (kAO aB pi) 0 (some ((aB (pi 1)) 0))) 1 (some ((aB (pi 2)) 0))) 2 (some ((aB (pi 3)) 0))))))))] ++ (cW aN gN ++ (kWs aB gB n9))) H11 := hP11
  have hD13 : va_D A ([(h0, .inr (6, cQ ac t0 (aN 0) (aT 0) b0 s0 i0 e0 sd)), (b0, .inl (G.2.2.2, 14, .inr (.inr (.inr (.inr (va_up (va_up (va_up (kAO aB pi) 0 (some ((aB (pi 1)) 0))) 1 (some ((aB (pi 2)) 0))) 2 (some ((aB (pi 3)) 0))))))))] ++ (cW aN gN ++ (kWs aB gB n9))) := hD11
  refine lv_iinc (v := 4) (lv' := [(2, .int 4), (1, .ref ((aB (pi 0)) 0)), (0, .ref h0)]) hx hb dX6_forgetFirstAct_29 hl10 (k := 0) rfl (by decide +kernel) (by decide) rfl (fun ls14 hl14 => ?_)
  refine lv_goto (tgt := 9) hx hb dX6_forgetFirstAct_32 (by decide) ?_
  refine lv_iload_n hx hb dX6_forgetFirstAct_9 rfl (lv_at hl14 0 rfl) ?_
  refine lv_bipush (v := 14) hx hb dX6_forgetFirstAct_10 (by decide) ?_
  refine lv_icmp_ge (x := 4) (y := 14) (tgt := 35) hx hb dX6_forgetFirstAct_12 (by decide) (fun (c4 : 14 ≤ 4) => absurd c4 (by decide)) (fun (c4 : ¬ (14 ≤ 4)) => ?_)
  refine lv_aload_n hx hb dX6_forgetFirstAct_15 rfl (lv_at hl14 2 rfl) ?_
  refine va_get (ci := 6) (v := .ref b0) (C := RX6) (T := TX6) (N := 9) hx hb ht inX6 hown hK.1 hP12 0 rfl rfl 3 (by decide) (ht _ q_266) (fun _ h9 => h9) rfl dX6_forgetFirstAct_16 ?_
  refine lv_iload_n hx hb dX6_forgetFirstAct_19 rfl (lv_at hl14 0 rfl) ?_
  refine lv_iconst (v := 1) hx hb dX6_forgetFirstAct_20 (by decide) ?_
  refine lv_isub hx hb dX6_forgetFirstAct_21 ?_
  refine k_top (y := 3) (by decide +kernel) ?_
  refine lv_aload_n hx hb dX6_forgetFirstAct_22 rfl (lv_at hl14 2 rfl) ?_
  refine va_get (ci := 6) (v := .ref b0) (C := RX6) (T := TX6) (N := 9) hx hb ht inX6 hown hK.1 hP12 0 rfl rfl 3 (by decide) (ht _ q_266) (fun _ h9 => h9) rfl dX6_forgetFirstAct_23 ?_
  refine lv_iload_n hx hb dX6_forgetFirstAct_26 rfl (lv_at hl14 0 rfl) ?_
  refine k_aald (v := (aB (pi 4)) 0) kx hK hP12 1 rfl 4 rfl (by decide) (by decide) rfl dX6_forgetFirstAct_27 ?_
  refine k_aast kx hK hP12 hD13 hS11 1 (2 + (9 + 9 * (pi 4))) rfl (kapp_r (kapp_r (kWs_at (lt14 h14 (hpi _ (by decide)))))) 3 rfl (by decide) (by decide) dX6_forgetFirstAct_28 (fun H15 locs15 hP15 hD15 hS15 => ?_)
  have hP16 : va_P G.1 vwCl ([(h0, .inr (6, cQ ac t0 (aN 0) (aT 0) b0 s0 i0 e0 sd)), (b0, .inl (G.2.2.2, 14, .inr (.inr (.inr (.inr (va_up (va_up (va_up (va_up (kAO aB pi) 0 (some ((aB (pi 1)) 0))) 1 (some ((aB (pi 2)) 0))) 2 (some ((aB (pi 3)) 0))) 3 (some ((aB (pi 4)) 0))))))))] ++ (cW aN gN ++ (kWs aB gB n9))) H15 := hP15
  have hD17 : va_D A ([(h0, .inr (6, cQ ac t0 (aN 0) (aT 0) b0 s0 i0 e0 sd)), (b0, .inl (G.2.2.2, 14, .inr (.inr (.inr (.inr (va_up (va_up (va_up (va_up (kAO aB pi) 0 (some ((aB (pi 1)) 0))) 1 (some ((aB (pi 2)) 0))) 2 (some ((aB (pi 3)) 0))) 3 (some ((aB (pi 4)) 0))))))))] ++ (cW aN gN ++ (kWs aB gB n9))) := hD15
  refine lv_iinc (v := 5) (lv' := [(2, .int 5), (1, .ref ((aB (pi 0)) 0)), (0, .ref h0)]) hx hb dX6_forgetFirstAct_29 hl14 (k := 0) rfl (by decide +kernel) (by decide) rfl (fun ls18 hl18 => ?_)
  refine lv_goto (tgt := 9) hx hb dX6_forgetFirstAct_32 (by decide) ?_
  refine lv_iload_n hx hb dX6_forgetFirstAct_9 rfl (lv_at hl18 0 rfl) ?_
  refine lv_bipush (v := 14) hx hb dX6_forgetFirstAct_10 (by decide) ?_
  refine lv_icmp_ge (x := 5) (y := 14) (tgt := 35) hx hb dX6_forgetFirstAct_12 (by decide) (fun (c5 : 14 ≤ 5) => absurd c5 (by decide)) (fun (c5 : ¬ (14 ≤ 5)) => ?_)
  refine lv_aload_n hx hb dX6_forgetFirstAct_15 rfl (lv_at hl18 2 rfl) ?_
  refine va_get (ci := 6) (v := .ref b0) (C := RX6) (T := TX6) (N := 9) hx hb ht inX6 hown hK.1 hP16 0 rfl rfl 3 (by decide) (ht _ q_266) (fun _ h9 => h9) rfl dX6_forgetFirstAct_16 ?_
  refine lv_iload_n hx hb dX6_forgetFirstAct_19 rfl (lv_at hl18 0 rfl) ?_
  refine lv_iconst (v := 1) hx hb dX6_forgetFirstAct_20 (by decide) ?_
  refine lv_isub hx hb dX6_forgetFirstAct_21 ?_
  refine k_top (y := 4) (by decide +kernel) ?_
  refine lv_aload_n hx hb dX6_forgetFirstAct_22 rfl (lv_at hl18 2 rfl) ?_
  refine va_get (ci := 6) (v := .ref b0) (C := RX6) (T := TX6) (N := 9) hx hb ht inX6 hown hK.1 hP16 0 rfl rfl 3 (by decide) (ht _ q_266) (fun _ h9 => h9) rfl dX6_forgetFirstAct_23 ?_
  refine lv_iload_n hx hb dX6_forgetFirstAct_26 rfl (lv_at hl18 0 rfl) ?_
  refine k_aald (v := (aB (pi 5)) 0) kx hK hP16 1 rfl 5 rfl (by decide) (by decide) rfl dX6_forgetFirstAct_27 ?_
  refine k_aast kx hK hP16 hD17 hS15 1 (2 + (9 + 9 * (pi 5))) rfl (kapp_r (kapp_r (kWs_at (lt14 h14 (hpi _ (by decide)))))) 4 rfl (by decide) (by decide) dX6_forgetFirstAct_28 (fun H19 locs19 hP19 hD19 hS19 => ?_)
  have hP20 : va_P G.1 vwCl ([(h0, .inr (6, cQ ac t0 (aN 0) (aT 0) b0 s0 i0 e0 sd)), (b0, .inl (G.2.2.2, 14, .inr (.inr (.inr (.inr (va_up (va_up (va_up (va_up (va_up (kAO aB pi) 0 (some ((aB (pi 1)) 0))) 1 (some ((aB (pi 2)) 0))) 2 (some ((aB (pi 3)) 0))) 3 (some ((aB (pi 4)) 0))) 4 (some ((aB (pi 5)) 0))))))))] ++ (cW aN gN ++ (kWs aB gB n9))) H19 := hP19
  have hD21 : va_D A ([(h0, .inr (6, cQ ac t0 (aN 0) (aT 0) b0 s0 i0 e0 sd)), (b0, .inl (G.2.2.2, 14, .inr (.inr (.inr (.inr (va_up (va_up (va_up (va_up (va_up (kAO aB pi) 0 (some ((aB (pi 1)) 0))) 1 (some ((aB (pi 2)) 0))) 2 (some ((aB (pi 3)) 0))) 3 (some ((aB (pi 4)) 0))) 4 (some ((aB (pi 5)) 0))))))))] ++ (cW aN gN ++ (kWs aB gB n9))) := hD19
  refine lv_iinc (v := 6) (lv' := [(2, .int 6), (1, .ref ((aB (pi 0)) 0)), (0, .ref h0)]) hx hb dX6_forgetFirstAct_29 hl18 (k := 0) rfl (by decide +kernel) (by decide) rfl (fun ls22 hl22 => ?_)
  refine lv_goto (tgt := 9) hx hb dX6_forgetFirstAct_32 (by decide) ?_
  refine lv_iload_n hx hb dX6_forgetFirstAct_9 rfl (lv_at hl22 0 rfl) ?_
  refine lv_bipush (v := 14) hx hb dX6_forgetFirstAct_10 (by decide) ?_
  refine lv_icmp_ge (x := 6) (y := 14) (tgt := 35) hx hb dX6_forgetFirstAct_12 (by decide) (fun (c6 : 14 ≤ 6) => absurd c6 (by decide)) (fun (c6 : ¬ (14 ≤ 6)) => ?_)
  refine lv_aload_n hx hb dX6_forgetFirstAct_15 rfl (lv_at hl22 2 rfl) ?_
  refine va_get (ci := 6) (v := .ref b0) (C := RX6) (T := TX6) (N := 9) hx hb ht inX6 hown hK.1 hP20 0 rfl rfl 3 (by decide) (ht _ q_266) (fun _ h9 => h9) rfl dX6_forgetFirstAct_16 ?_
  refine lv_iload_n hx hb dX6_forgetFirstAct_19 rfl (lv_at hl22 0 rfl) ?_
  refine lv_iconst (v := 1) hx hb dX6_forgetFirstAct_20 (by decide) ?_
  refine lv_isub hx hb dX6_forgetFirstAct_21 ?_
  refine k_top (y := 5) (by decide +kernel) ?_
  refine lv_aload_n hx hb dX6_forgetFirstAct_22 rfl (lv_at hl22 2 rfl) ?_
  refine va_get (ci := 6) (v := .ref b0) (C := RX6) (T := TX6) (N := 9) hx hb ht inX6 hown hK.1 hP20 0 rfl rfl 3 (by decide) (ht _ q_266) (fun _ h9 => h9) rfl dX6_forgetFirstAct_23 ?_
  refine lv_iload_n hx hb dX6_forgetFirstAct_26 rfl (lv_at hl22 0 rfl) ?_
  refine k_aald (v := (aB (pi 6)) 0) kx hK hP20 1 rfl 6 rfl (by decide) (by decide) rfl dX6_forgetFirstAct_27 ?_
  refine k_aast kx hK hP20 hD21 hS19 1 (2 + (9 + 9 * (pi 6))) rfl (kapp_r (kapp_r (kWs_at (lt14 h14 (hpi _ (by decide)))))) 5 rfl (by decide) (by decide) dX6_forgetFirstAct_28 (fun H23 locs23 hP23 hD23 hS23 => ?_)
  have hP24 : va_P G.1 vwCl ([(h0, .inr (6, cQ ac t0 (aN 0) (aT 0) b0 s0 i0 e0 sd)), (b0, .inl (G.2.2.2, 14, .inr (.inr (.inr (.inr (va_up (va_up (va_up (va_up (va_up (va_up (kAO aB pi) 0 (some ((aB (pi 1)) 0))) 1 (some ((aB (pi 2)) 0))) 2 (some ((aB (pi 3)) 0))) 3 (some ((aB (pi 4)) 0))) 4 (some ((aB (pi 5)) 0))) 5 (some ((aB (pi 6)) 0))))))))] ++ (cW aN gN ++ (kWs aB gB n9))) H23 := hP23
  have hD25 : va_D A ([(h0, .inr (6, cQ ac t0 (aN 0) (aT 0) b0 s0 i0 e0 sd)), (b0, .inl (G.2.2.2, 14, .inr (.inr (.inr (.inr (va_up (va_up (va_up (va_up (va_up (va_up (kAO aB pi) 0 (some ((aB (pi 1)) 0))) 1 (some ((aB (pi 2)) 0))) 2 (some ((aB (pi 3)) 0))) 3 (some ((aB (pi 4)) 0))) 4 (some ((aB (pi 5)) 0))) 5 (some ((aB (pi 6)) 0))))))))] ++ (cW aN gN ++ (kWs aB gB n9))) := hD23
  refine lv_iinc (v := 7) (lv' := [(2, .int 7), (1, .ref ((aB (pi 0)) 0)), (0, .ref h0)]) hx hb dX6_forgetFirstAct_29 hl22 (k := 0) rfl (by decide +kernel) (by decide) rfl (fun ls26 hl26 => ?_)
  refine lv_goto (tgt := 9) hx hb dX6_forgetFirstAct_32 (by decide) ?_
  refine lv_iload_n hx hb dX6_forgetFirstAct_9 rfl (lv_at hl26 0 rfl) ?_
  refine lv_bipush (v := 14) hx hb dX6_forgetFirstAct_10 (by decide) ?_
  refine lv_icmp_ge (x := 7) (y := 14) (tgt := 35) hx hb dX6_forgetFirstAct_12 (by decide) (fun (c7 : 14 ≤ 7) => absurd c7 (by decide)) (fun (c7 : ¬ (14 ≤ 7)) => ?_)
  refine lv_aload_n hx hb dX6_forgetFirstAct_15 rfl (lv_at hl26 2 rfl) ?_
  refine va_get (ci := 6) (v := .ref b0) (C := RX6) (T := TX6) (N := 9) hx hb ht inX6 hown hK.1 hP24 0 rfl rfl 3 (by decide) (ht _ q_266) (fun _ h9 => h9) rfl dX6_forgetFirstAct_16 ?_
  refine lv_iload_n hx hb dX6_forgetFirstAct_19 rfl (lv_at hl26 0 rfl) ?_
  refine lv_iconst (v := 1) hx hb dX6_forgetFirstAct_20 (by decide) ?_
  refine lv_isub hx hb dX6_forgetFirstAct_21 ?_
  refine k_top (y := 6) (by decide +kernel) ?_
  refine lv_aload_n hx hb dX6_forgetFirstAct_22 rfl (lv_at hl26 2 rfl) ?_
  refine va_get (ci := 6) (v := .ref b0) (C := RX6) (T := TX6) (N := 9) hx hb ht inX6 hown hK.1 hP24 0 rfl rfl 3 (by decide) (ht _ q_266) (fun _ h9 => h9) rfl dX6_forgetFirstAct_23 ?_
  refine lv_iload_n hx hb dX6_forgetFirstAct_26 rfl (lv_at hl26 0 rfl) ?_
  refine k_aald (v := (aB (pi 7)) 0) kx hK hP24 1 rfl 7 rfl (by decide) (by decide) rfl dX6_forgetFirstAct_27 ?_
  refine k_aast kx hK hP24 hD25 hS23 1 (2 + (9 + 9 * (pi 7))) rfl (kapp_r (kapp_r (kWs_at (lt14 h14 (hpi _ (by decide)))))) 6 rfl (by decide) (by decide) dX6_forgetFirstAct_28 (fun H27 locs27 hP27 hD27 hS27 => ?_)
  have hP28 : va_P G.1 vwCl ([(h0, .inr (6, cQ ac t0 (aN 0) (aT 0) b0 s0 i0 e0 sd)), (b0, .inl (G.2.2.2, 14, .inr (.inr (.inr (.inr (va_up (va_up (va_up (va_up (va_up (va_up (va_up (kAO aB pi) 0 (some ((aB (pi 1)) 0))) 1 (some ((aB (pi 2)) 0))) 2 (some ((aB (pi 3)) 0))) 3 (some ((aB (pi 4)) 0))) 4 (some ((aB (pi 5)) 0))) 5 (some ((aB (pi 6)) 0))) 6 (some ((aB (pi 7)) 0))))))))] ++ (cW aN gN ++ (kWs aB gB n9))) H27 := hP27
  have hD29 : va_D A ([(h0, .inr (6, cQ ac t0 (aN 0) (aT 0) b0 s0 i0 e0 sd)), (b0, .inl (G.2.2.2, 14, .inr (.inr (.inr (.inr (va_up (va_up (va_up (va_up (va_up (va_up (va_up (kAO aB pi) 0 (some ((aB (pi 1)) 0))) 1 (some ((aB (pi 2)) 0))) 2 (some ((aB (pi 3)) 0))) 3 (some ((aB (pi 4)) 0))) 4 (some ((aB (pi 5)) 0))) 5 (some ((aB (pi 6)) 0))) 6 (some ((aB (pi 7)) 0))))))))] ++ (cW aN gN ++ (kWs aB gB n9))) := hD27
  refine lv_iinc (v := 8) (lv' := [(2, .int 8), (1, .ref ((aB (pi 0)) 0)), (0, .ref h0)]) hx hb dX6_forgetFirstAct_29 hl26 (k := 0) rfl (by decide +kernel) (by decide) rfl (fun ls30 hl30 => ?_)
  refine lv_goto (tgt := 9) hx hb dX6_forgetFirstAct_32 (by decide) ?_
  refine lv_iload_n hx hb dX6_forgetFirstAct_9 rfl (lv_at hl30 0 rfl) ?_
  refine lv_bipush (v := 14) hx hb dX6_forgetFirstAct_10 (by decide) ?_
  refine lv_icmp_ge (x := 8) (y := 14) (tgt := 35) hx hb dX6_forgetFirstAct_12 (by decide) (fun (c8 : 14 ≤ 8) => absurd c8 (by decide)) (fun (c8 : ¬ (14 ≤ 8)) => ?_)
  refine lv_aload_n hx hb dX6_forgetFirstAct_15 rfl (lv_at hl30 2 rfl) ?_
  refine va_get (ci := 6) (v := .ref b0) (C := RX6) (T := TX6) (N := 9) hx hb ht inX6 hown hK.1 hP28 0 rfl rfl 3 (by decide) (ht _ q_266) (fun _ h9 => h9) rfl dX6_forgetFirstAct_16 ?_
  refine lv_iload_n hx hb dX6_forgetFirstAct_19 rfl (lv_at hl30 0 rfl) ?_
  refine lv_iconst (v := 1) hx hb dX6_forgetFirstAct_20 (by decide) ?_
  refine lv_isub hx hb dX6_forgetFirstAct_21 ?_
  refine k_top (y := 7) (by decide +kernel) ?_
  refine lv_aload_n hx hb dX6_forgetFirstAct_22 rfl (lv_at hl30 2 rfl) ?_
  refine va_get (ci := 6) (v := .ref b0) (C := RX6) (T := TX6) (N := 9) hx hb ht inX6 hown hK.1 hP28 0 rfl rfl 3 (by decide) (ht _ q_266) (fun _ h9 => h9) rfl dX6_forgetFirstAct_23 ?_
  refine lv_iload_n hx hb dX6_forgetFirstAct_26 rfl (lv_at hl30 0 rfl) ?_
  refine k_aald (v := (aB (pi 8)) 0) kx hK hP28 1 rfl 8 rfl (by decide) (by decide) rfl dX6_forgetFirstAct_27 ?_
  refine k_aast kx hK hP28 hD29 hS27 1 (2 + (9 + 9 * (pi 8))) rfl (kapp_r (kapp_r (kWs_at (lt14 h14 (hpi _ (by decide)))))) 7 rfl (by decide) (by decide) dX6_forgetFirstAct_28 (fun H31 locs31 hP31 hD31 hS31 => ?_)
  have hP32 : va_P G.1 vwCl ([(h0, .inr (6, cQ ac t0 (aN 0) (aT 0) b0 s0 i0 e0 sd)), (b0, .inl (G.2.2.2, 14, .inr (.inr (.inr (.inr (va_up (va_up (va_up (va_up (va_up (va_up (va_up (va_up (kAO aB pi) 0 (some ((aB (pi 1)) 0))) 1 (some ((aB (pi 2)) 0))) 2 (some ((aB (pi 3)) 0))) 3 (some ((aB (pi 4)) 0))) 4 (some ((aB (pi 5)) 0))) 5 (some ((aB (pi 6)) 0))) 6 (some ((aB (pi 7)) 0))) 7 (some ((aB (pi 8)) 0))))))))] ++ (cW aN gN ++ (kWs aB gB n9))) H31 := hP31
  have hD33 : va_D A ([(h0, .inr (6, cQ ac t0 (aN 0) (aT 0) b0 s0 i0 e0 sd)), (b0, .inl (G.2.2.2, 14, .inr (.inr (.inr (.inr (va_up (va_up (va_up (va_up (va_up (va_up (va_up (va_up (kAO aB pi) 0 (some ((aB (pi 1)) 0))) 1 (some ((aB (pi 2)) 0))) 2 (some ((aB (pi 3)) 0))) 3 (some ((aB (pi 4)) 0))) 4 (some ((aB (pi 5)) 0))) 5 (some ((aB (pi 6)) 0))) 6 (some ((aB (pi 7)) 0))) 7 (some ((aB (pi 8)) 0))))))))] ++ (cW aN gN ++ (kWs aB gB n9))) := hD31
  refine lv_iinc (v := 9) (lv' := [(2, .int 9), (1, .ref ((aB (pi 0)) 0)), (0, .ref h0)]) hx hb dX6_forgetFirstAct_29 hl30 (k := 0) rfl (by decide +kernel) (by decide) rfl (fun ls34 hl34 => ?_)
  refine lv_goto (tgt := 9) hx hb dX6_forgetFirstAct_32 (by decide) ?_
  refine lv_iload_n hx hb dX6_forgetFirstAct_9 rfl (lv_at hl34 0 rfl) ?_
  refine lv_bipush (v := 14) hx hb dX6_forgetFirstAct_10 (by decide) ?_
  refine lv_icmp_ge (x := 9) (y := 14) (tgt := 35) hx hb dX6_forgetFirstAct_12 (by decide) (fun (c9 : 14 ≤ 9) => absurd c9 (by decide)) (fun (c9 : ¬ (14 ≤ 9)) => ?_)
  refine lv_aload_n hx hb dX6_forgetFirstAct_15 rfl (lv_at hl34 2 rfl) ?_
  refine va_get (ci := 6) (v := .ref b0) (C := RX6) (T := TX6) (N := 9) hx hb ht inX6 hown hK.1 hP32 0 rfl rfl 3 (by decide) (ht _ q_266) (fun _ h9 => h9) rfl dX6_forgetFirstAct_16 ?_
  refine lv_iload_n hx hb dX6_forgetFirstAct_19 rfl (lv_at hl34 0 rfl) ?_
  refine lv_iconst (v := 1) hx hb dX6_forgetFirstAct_20 (by decide) ?_
  refine lv_isub hx hb dX6_forgetFirstAct_21 ?_
  refine k_top (y := 8) (by decide +kernel) ?_
  refine lv_aload_n hx hb dX6_forgetFirstAct_22 rfl (lv_at hl34 2 rfl) ?_
  refine va_get (ci := 6) (v := .ref b0) (C := RX6) (T := TX6) (N := 9) hx hb ht inX6 hown hK.1 hP32 0 rfl rfl 3 (by decide) (ht _ q_266) (fun _ h9 => h9) rfl dX6_forgetFirstAct_23 ?_
  refine lv_iload_n hx hb dX6_forgetFirstAct_26 rfl (lv_at hl34 0 rfl) ?_
  refine k_aald (v := (aB (pi 9)) 0) kx hK hP32 1 rfl 9 rfl (by decide) (by decide) rfl dX6_forgetFirstAct_27 ?_
  refine k_aast kx hK hP32 hD33 hS31 1 (2 + (9 + 9 * (pi 9))) rfl (kapp_r (kapp_r (kWs_at (lt14 h14 (hpi _ (by decide)))))) 8 rfl (by decide) (by decide) dX6_forgetFirstAct_28 (fun H35 locs35 hP35 hD35 hS35 => ?_)
  have hP36 : va_P G.1 vwCl ([(h0, .inr (6, cQ ac t0 (aN 0) (aT 0) b0 s0 i0 e0 sd)), (b0, .inl (G.2.2.2, 14, .inr (.inr (.inr (.inr (va_up (va_up (va_up (va_up (va_up (va_up (va_up (va_up (va_up (kAO aB pi) 0 (some ((aB (pi 1)) 0))) 1 (some ((aB (pi 2)) 0))) 2 (some ((aB (pi 3)) 0))) 3 (some ((aB (pi 4)) 0))) 4 (some ((aB (pi 5)) 0))) 5 (some ((aB (pi 6)) 0))) 6 (some ((aB (pi 7)) 0))) 7 (some ((aB (pi 8)) 0))) 8 (some ((aB (pi 9)) 0))))))))] ++ (cW aN gN ++ (kWs aB gB n9))) H35 := hP35
  have hD37 : va_D A ([(h0, .inr (6, cQ ac t0 (aN 0) (aT 0) b0 s0 i0 e0 sd)), (b0, .inl (G.2.2.2, 14, .inr (.inr (.inr (.inr (va_up (va_up (va_up (va_up (va_up (va_up (va_up (va_up (va_up (kAO aB pi) 0 (some ((aB (pi 1)) 0))) 1 (some ((aB (pi 2)) 0))) 2 (some ((aB (pi 3)) 0))) 3 (some ((aB (pi 4)) 0))) 4 (some ((aB (pi 5)) 0))) 5 (some ((aB (pi 6)) 0))) 6 (some ((aB (pi 7)) 0))) 7 (some ((aB (pi 8)) 0))) 8 (some ((aB (pi 9)) 0))))))))] ++ (cW aN gN ++ (kWs aB gB n9))) := hD35
  refine lv_iinc (v := 10) (lv' := [(2, .int 10), (1, .ref ((aB (pi 0)) 0)), (0, .ref h0)]) hx hb dX6_forgetFirstAct_29 hl34 (k := 0) rfl (by decide +kernel) (by decide) rfl (fun ls38 hl38 => ?_)
  refine lv_goto (tgt := 9) hx hb dX6_forgetFirstAct_32 (by decide) ?_
  refine lv_iload_n hx hb dX6_forgetFirstAct_9 rfl (lv_at hl38 0 rfl) ?_
  refine lv_bipush (v := 14) hx hb dX6_forgetFirstAct_10 (by decide) ?_
  refine lv_icmp_ge (x := 10) (y := 14) (tgt := 35) hx hb dX6_forgetFirstAct_12 (by decide) (fun (c10 : 14 ≤ 10) => absurd c10 (by decide)) (fun (c10 : ¬ (14 ≤ 10)) => ?_)
  refine lv_aload_n hx hb dX6_forgetFirstAct_15 rfl (lv_at hl38 2 rfl) ?_
  refine va_get (ci := 6) (v := .ref b0) (C := RX6) (T := TX6) (N := 9) hx hb ht inX6 hown hK.1 hP36 0 rfl rfl 3 (by decide) (ht _ q_266) (fun _ h9 => h9) rfl dX6_forgetFirstAct_16 ?_
  refine lv_iload_n hx hb dX6_forgetFirstAct_19 rfl (lv_at hl38 0 rfl) ?_
  refine lv_iconst (v := 1) hx hb dX6_forgetFirstAct_20 (by decide) ?_
  refine lv_isub hx hb dX6_forgetFirstAct_21 ?_
  refine k_top (y := 9) (by decide +kernel) ?_
  refine lv_aload_n hx hb dX6_forgetFirstAct_22 rfl (lv_at hl38 2 rfl) ?_
  refine va_get (ci := 6) (v := .ref b0) (C := RX6) (T := TX6) (N := 9) hx hb ht inX6 hown hK.1 hP36 0 rfl rfl 3 (by decide) (ht _ q_266) (fun _ h9 => h9) rfl dX6_forgetFirstAct_23 ?_
  refine lv_iload_n hx hb dX6_forgetFirstAct_26 rfl (lv_at hl38 0 rfl) ?_
  refine k_aald (v := (aB (pi 10)) 0) kx hK hP36 1 rfl 10 rfl (by decide) (by decide) rfl dX6_forgetFirstAct_27 ?_
  refine k_aast kx hK hP36 hD37 hS35 1 (2 + (9 + 9 * (pi 10))) rfl (kapp_r (kapp_r (kWs_at (lt14 h14 (hpi _ (by decide)))))) 9 rfl (by decide) (by decide) dX6_forgetFirstAct_28 (fun H39 locs39 hP39 hD39 hS39 => ?_)
  have hP40 : va_P G.1 vwCl ([(h0, .inr (6, cQ ac t0 (aN 0) (aT 0) b0 s0 i0 e0 sd)), (b0, .inl (G.2.2.2, 14, .inr (.inr (.inr (.inr (va_up (va_up (va_up (va_up (va_up (va_up (va_up (va_up (va_up (va_up (kAO aB pi) 0 (some ((aB (pi 1)) 0))) 1 (some ((aB (pi 2)) 0))) 2 (some ((aB (pi 3)) 0))) 3 (some ((aB (pi 4)) 0))) 4 (some ((aB (pi 5)) 0))) 5 (some ((aB (pi 6)) 0))) 6 (some ((aB (pi 7)) 0))) 7 (some ((aB (pi 8)) 0))) 8 (some ((aB (pi 9)) 0))) 9 (some ((aB (pi 10)) 0))))))))] ++ (cW aN gN ++ (kWs aB gB n9))) H39 := hP39
  have hD41 : va_D A ([(h0, .inr (6, cQ ac t0 (aN 0) (aT 0) b0 s0 i0 e0 sd)), (b0, .inl (G.2.2.2, 14, .inr (.inr (.inr (.inr (va_up (va_up (va_up (va_up (va_up (va_up (va_up (va_up (va_up (va_up (kAO aB pi) 0 (some ((aB (pi 1)) 0))) 1 (some ((aB (pi 2)) 0))) 2 (some ((aB (pi 3)) 0))) 3 (some ((aB (pi 4)) 0))) 4 (some ((aB (pi 5)) 0))) 5 (some ((aB (pi 6)) 0))) 6 (some ((aB (pi 7)) 0))) 7 (some ((aB (pi 8)) 0))) 8 (some ((aB (pi 9)) 0))) 9 (some ((aB (pi 10)) 0))))))))] ++ (cW aN gN ++ (kWs aB gB n9))) := hD39
  refine lv_iinc (v := 11) (lv' := [(2, .int 11), (1, .ref ((aB (pi 0)) 0)), (0, .ref h0)]) hx hb dX6_forgetFirstAct_29 hl38 (k := 0) rfl (by decide +kernel) (by decide) rfl (fun ls42 hl42 => ?_)
  refine lv_goto (tgt := 9) hx hb dX6_forgetFirstAct_32 (by decide) ?_
  refine lv_iload_n hx hb dX6_forgetFirstAct_9 rfl (lv_at hl42 0 rfl) ?_
  refine lv_bipush (v := 14) hx hb dX6_forgetFirstAct_10 (by decide) ?_
  refine lv_icmp_ge (x := 11) (y := 14) (tgt := 35) hx hb dX6_forgetFirstAct_12 (by decide) (fun (c11 : 14 ≤ 11) => absurd c11 (by decide)) (fun (c11 : ¬ (14 ≤ 11)) => ?_)
  refine lv_aload_n hx hb dX6_forgetFirstAct_15 rfl (lv_at hl42 2 rfl) ?_
  refine va_get (ci := 6) (v := .ref b0) (C := RX6) (T := TX6) (N := 9) hx hb ht inX6 hown hK.1 hP40 0 rfl rfl 3 (by decide) (ht _ q_266) (fun _ h9 => h9) rfl dX6_forgetFirstAct_16 ?_
  refine lv_iload_n hx hb dX6_forgetFirstAct_19 rfl (lv_at hl42 0 rfl) ?_
  refine lv_iconst (v := 1) hx hb dX6_forgetFirstAct_20 (by decide) ?_
  refine lv_isub hx hb dX6_forgetFirstAct_21 ?_
  refine k_top (y := 10) (by decide +kernel) ?_
  refine lv_aload_n hx hb dX6_forgetFirstAct_22 rfl (lv_at hl42 2 rfl) ?_
  refine va_get (ci := 6) (v := .ref b0) (C := RX6) (T := TX6) (N := 9) hx hb ht inX6 hown hK.1 hP40 0 rfl rfl 3 (by decide) (ht _ q_266) (fun _ h9 => h9) rfl dX6_forgetFirstAct_23 ?_
  refine lv_iload_n hx hb dX6_forgetFirstAct_26 rfl (lv_at hl42 0 rfl) ?_
  refine k_aald (v := (aB (pi 11)) 0) kx hK hP40 1 rfl 11 rfl (by decide) (by decide) rfl dX6_forgetFirstAct_27 ?_
  refine k_aast kx hK hP40 hD41 hS39 1 (2 + (9 + 9 * (pi 11))) rfl (kapp_r (kapp_r (kWs_at (lt14 h14 (hpi _ (by decide)))))) 10 rfl (by decide) (by decide) dX6_forgetFirstAct_28 (fun H43 locs43 hP43 hD43 hS43 => ?_)
  have hP44 : va_P G.1 vwCl ([(h0, .inr (6, cQ ac t0 (aN 0) (aT 0) b0 s0 i0 e0 sd)), (b0, .inl (G.2.2.2, 14, .inr (.inr (.inr (.inr (va_up (va_up (va_up (va_up (va_up (va_up (va_up (va_up (va_up (va_up (va_up (kAO aB pi) 0 (some ((aB (pi 1)) 0))) 1 (some ((aB (pi 2)) 0))) 2 (some ((aB (pi 3)) 0))) 3 (some ((aB (pi 4)) 0))) 4 (some ((aB (pi 5)) 0))) 5 (some ((aB (pi 6)) 0))) 6 (some ((aB (pi 7)) 0))) 7 (some ((aB (pi 8)) 0))) 8 (some ((aB (pi 9)) 0))) 9 (some ((aB (pi 10)) 0))) 10 (some ((aB (pi 11)) 0))))))))] ++ (cW aN gN ++ (kWs aB gB n9))) H43 := hP43
  have hD45 : va_D A ([(h0, .inr (6, cQ ac t0 (aN 0) (aT 0) b0 s0 i0 e0 sd)), (b0, .inl (G.2.2.2, 14, .inr (.inr (.inr (.inr (va_up (va_up (va_up (va_up (va_up (va_up (va_up (va_up (va_up (va_up (va_up (kAO aB pi) 0 (some ((aB (pi 1)) 0))) 1 (some ((aB (pi 2)) 0))) 2 (some ((aB (pi 3)) 0))) 3 (some ((aB (pi 4)) 0))) 4 (some ((aB (pi 5)) 0))) 5 (some ((aB (pi 6)) 0))) 6 (some ((aB (pi 7)) 0))) 7 (some ((aB (pi 8)) 0))) 8 (some ((aB (pi 9)) 0))) 9 (some ((aB (pi 10)) 0))) 10 (some ((aB (pi 11)) 0))))))))] ++ (cW aN gN ++ (kWs aB gB n9))) := hD43
  refine lv_iinc (v := 12) (lv' := [(2, .int 12), (1, .ref ((aB (pi 0)) 0)), (0, .ref h0)]) hx hb dX6_forgetFirstAct_29 hl42 (k := 0) rfl (by decide +kernel) (by decide) rfl (fun ls46 hl46 => ?_)
  refine lv_goto (tgt := 9) hx hb dX6_forgetFirstAct_32 (by decide) ?_
  refine lv_iload_n hx hb dX6_forgetFirstAct_9 rfl (lv_at hl46 0 rfl) ?_
  refine lv_bipush (v := 14) hx hb dX6_forgetFirstAct_10 (by decide) ?_
  refine lv_icmp_ge (x := 12) (y := 14) (tgt := 35) hx hb dX6_forgetFirstAct_12 (by decide) (fun (c12 : 14 ≤ 12) => absurd c12 (by decide)) (fun (c12 : ¬ (14 ≤ 12)) => ?_)
  refine lv_aload_n hx hb dX6_forgetFirstAct_15 rfl (lv_at hl46 2 rfl) ?_
  refine va_get (ci := 6) (v := .ref b0) (C := RX6) (T := TX6) (N := 9) hx hb ht inX6 hown hK.1 hP44 0 rfl rfl 3 (by decide) (ht _ q_266) (fun _ h9 => h9) rfl dX6_forgetFirstAct_16 ?_
  refine lv_iload_n hx hb dX6_forgetFirstAct_19 rfl (lv_at hl46 0 rfl) ?_
  refine lv_iconst (v := 1) hx hb dX6_forgetFirstAct_20 (by decide) ?_
  refine lv_isub hx hb dX6_forgetFirstAct_21 ?_
  refine k_top (y := 11) (by decide +kernel) ?_
  refine lv_aload_n hx hb dX6_forgetFirstAct_22 rfl (lv_at hl46 2 rfl) ?_
  refine va_get (ci := 6) (v := .ref b0) (C := RX6) (T := TX6) (N := 9) hx hb ht inX6 hown hK.1 hP44 0 rfl rfl 3 (by decide) (ht _ q_266) (fun _ h9 => h9) rfl dX6_forgetFirstAct_23 ?_
  refine lv_iload_n hx hb dX6_forgetFirstAct_26 rfl (lv_at hl46 0 rfl) ?_
  refine k_aald (v := (aB (pi 12)) 0) kx hK hP44 1 rfl 12 rfl (by decide) (by decide) rfl dX6_forgetFirstAct_27 ?_
  refine k_aast kx hK hP44 hD45 hS43 1 (2 + (9 + 9 * (pi 12))) rfl (kapp_r (kapp_r (kWs_at (lt14 h14 (hpi _ (by decide)))))) 11 rfl (by decide) (by decide) dX6_forgetFirstAct_28 (fun H47 locs47 hP47 hD47 hS47 => ?_)
  have hP48 : va_P G.1 vwCl ([(h0, .inr (6, cQ ac t0 (aN 0) (aT 0) b0 s0 i0 e0 sd)), (b0, .inl (G.2.2.2, 14, .inr (.inr (.inr (.inr (va_up (va_up (va_up (va_up (va_up (va_up (va_up (va_up (va_up (va_up (va_up (va_up (kAO aB pi) 0 (some ((aB (pi 1)) 0))) 1 (some ((aB (pi 2)) 0))) 2 (some ((aB (pi 3)) 0))) 3 (some ((aB (pi 4)) 0))) 4 (some ((aB (pi 5)) 0))) 5 (some ((aB (pi 6)) 0))) 6 (some ((aB (pi 7)) 0))) 7 (some ((aB (pi 8)) 0))) 8 (some ((aB (pi 9)) 0))) 9 (some ((aB (pi 10)) 0))) 10 (some ((aB (pi 11)) 0))) 11 (some ((aB (pi 12)) 0))))))))] ++ (cW aN gN ++ (kWs aB gB n9))) H47 := hP47
  have hD49 : va_D A ([(h0, .inr (6, cQ ac t0 (aN 0) (aT 0) b0 s0 i0 e0 sd)), (b0, .inl (G.2.2.2, 14, .inr (.inr (.inr (.inr (va_up (va_up (va_up (va_up (va_up (va_up (va_up (va_up (va_up (va_up (va_up (va_up (kAO aB pi) 0 (some ((aB (pi 1)) 0))) 1 (some ((aB (pi 2)) 0))) 2 (some ((aB (pi 3)) 0))) 3 (some ((aB (pi 4)) 0))) 4 (some ((aB (pi 5)) 0))) 5 (some ((aB (pi 6)) 0))) 6 (some ((aB (pi 7)) 0))) 7 (some ((aB (pi 8)) 0))) 8 (some ((aB (pi 9)) 0))) 9 (some ((aB (pi 10)) 0))) 10 (some ((aB (pi 11)) 0))) 11 (some ((aB (pi 12)) 0))))))))] ++ (cW aN gN ++ (kWs aB gB n9))) := hD47
  refine lv_iinc (v := 13) (lv' := [(2, .int 13), (1, .ref ((aB (pi 0)) 0)), (0, .ref h0)]) hx hb dX6_forgetFirstAct_29 hl46 (k := 0) rfl (by decide +kernel) (by decide) rfl (fun ls50 hl50 => ?_)
  refine lv_goto (tgt := 9) hx hb dX6_forgetFirstAct_32 (by decide) ?_
  refine lv_iload_n hx hb dX6_forgetFirstAct_9 rfl (lv_at hl50 0 rfl) ?_
  refine lv_bipush (v := 14) hx hb dX6_forgetFirstAct_10 (by decide) ?_
  refine lv_icmp_ge (x := 13) (y := 14) (tgt := 35) hx hb dX6_forgetFirstAct_12 (by decide) (fun (c13 : 14 ≤ 13) => absurd c13 (by decide)) (fun (c13 : ¬ (14 ≤ 13)) => ?_)
  refine lv_aload_n hx hb dX6_forgetFirstAct_15 rfl (lv_at hl50 2 rfl) ?_
  refine va_get (ci := 6) (v := .ref b0) (C := RX6) (T := TX6) (N := 9) hx hb ht inX6 hown hK.1 hP48 0 rfl rfl 3 (by decide) (ht _ q_266) (fun _ h9 => h9) rfl dX6_forgetFirstAct_16 ?_
  refine lv_iload_n hx hb dX6_forgetFirstAct_19 rfl (lv_at hl50 0 rfl) ?_
  refine lv_iconst (v := 1) hx hb dX6_forgetFirstAct_20 (by decide) ?_
  refine lv_isub hx hb dX6_forgetFirstAct_21 ?_
  refine k_top (y := 12) (by decide +kernel) ?_
  refine lv_aload_n hx hb dX6_forgetFirstAct_22 rfl (lv_at hl50 2 rfl) ?_
  refine va_get (ci := 6) (v := .ref b0) (C := RX6) (T := TX6) (N := 9) hx hb ht inX6 hown hK.1 hP48 0 rfl rfl 3 (by decide) (ht _ q_266) (fun _ h9 => h9) rfl dX6_forgetFirstAct_23 ?_
  refine lv_iload_n hx hb dX6_forgetFirstAct_26 rfl (lv_at hl50 0 rfl) ?_
  refine k_aald (v := (aB (pi 13)) 0) kx hK hP48 1 rfl 13 rfl (by decide) (by decide) rfl dX6_forgetFirstAct_27 ?_
  refine k_aast kx hK hP48 hD49 hS47 1 (2 + (9 + 9 * (pi 13))) rfl (kapp_r (kapp_r (kWs_at (lt14 h14 (hpi _ (by decide)))))) 12 rfl (by decide) (by decide) dX6_forgetFirstAct_28 (fun H51 locs51 hP51 hD51 hS51 => ?_)
  have hP52 : va_P G.1 vwCl ([(h0, .inr (6, cQ ac t0 (aN 0) (aT 0) b0 s0 i0 e0 sd)), (b0, .inl (G.2.2.2, 14, .inr (.inr (.inr (.inr (va_up (va_up (va_up (va_up (va_up (va_up (va_up (va_up (va_up (va_up (va_up (va_up (va_up (kAO aB pi) 0 (some ((aB (pi 1)) 0))) 1 (some ((aB (pi 2)) 0))) 2 (some ((aB (pi 3)) 0))) 3 (some ((aB (pi 4)) 0))) 4 (some ((aB (pi 5)) 0))) 5 (some ((aB (pi 6)) 0))) 6 (some ((aB (pi 7)) 0))) 7 (some ((aB (pi 8)) 0))) 8 (some ((aB (pi 9)) 0))) 9 (some ((aB (pi 10)) 0))) 10 (some ((aB (pi 11)) 0))) 11 (some ((aB (pi 12)) 0))) 12 (some ((aB (pi 13)) 0))))))))] ++ (cW aN gN ++ (kWs aB gB n9))) H51 := hP51
  have hD53 : va_D A ([(h0, .inr (6, cQ ac t0 (aN 0) (aT 0) b0 s0 i0 e0 sd)), (b0, .inl (G.2.2.2, 14, .inr (.inr (.inr (.inr (va_up (va_up (va_up (va_up (va_up (va_up (va_up (va_up (va_up (va_up (va_up (va_up (va_up (kAO aB pi) 0 (some ((aB (pi 1)) 0))) 1 (some ((aB (pi 2)) 0))) 2 (some ((aB (pi 3)) 0))) 3 (some ((aB (pi 4)) 0))) 4 (some ((aB (pi 5)) 0))) 5 (some ((aB (pi 6)) 0))) 6 (some ((aB (pi 7)) 0))) 7 (some ((aB (pi 8)) 0))) 8 (some ((aB (pi 9)) 0))) 9 (some ((aB (pi 10)) 0))) 10 (some ((aB (pi 11)) 0))) 11 (some ((aB (pi 12)) 0))) 12 (some ((aB (pi 13)) 0))))))))] ++ (cW aN gN ++ (kWs aB gB n9))) := hD51
  refine lv_iinc (v := 14) (lv' := [(2, .int 14), (1, .ref ((aB (pi 0)) 0)), (0, .ref h0)]) hx hb dX6_forgetFirstAct_29 hl50 (k := 0) rfl (by decide +kernel) (by decide) rfl (fun ls54 hl54 => ?_)
  refine lv_goto (tgt := 9) hx hb dX6_forgetFirstAct_32 (by decide) ?_
  refine lv_iload_n hx hb dX6_forgetFirstAct_9 rfl (lv_at hl54 0 rfl) ?_
  refine lv_bipush (v := 14) hx hb dX6_forgetFirstAct_10 (by decide) ?_
  refine lv_icmp_ge (x := 14) (y := 14) (tgt := 35) hx hb dX6_forgetFirstAct_12 (by decide) (fun (c14 : 14 ≤ 14) => ?_) (fun (c14 : ¬ (14 ≤ 14)) => absurd (by decide) c14)
  refine lv_aload_n hx hb dX6_forgetFirstAct_35 rfl (lv_at hl54 2 rfl) ?_
  refine va_get (ci := 6) (v := .ref b0) (C := RX6) (T := TX6) (N := 9) hx hb ht inX6 hown hK.1 hP52 0 rfl rfl 3 (by decide) (ht _ q_266) (fun _ h9 => h9) rfl dX6_forgetFirstAct_36 ?_
  refine lv_bipush (v := 13) hx hb dX6_forgetFirstAct_39 (by decide) ?_
  refine lv_aload_n hx hb dX6_forgetFirstAct_41 rfl (lv_at hl54 1 rfl) ?_
  refine k_aast kx hK hP52 hD53 hS51 1 (2 + (9 + 9 * (pi 0))) rfl (kapp_r (kapp_r (kWs_at (lt14 h14 (hpi _ (by decide)))))) 13 rfl (by decide) (by decide) dX6_forgetFirstAct_42 (fun H55 locs55 hP55 hD55 hS55 => ?_)
  have hP56 : va_P G.1 vwCl ([(h0, .inr (6, cQ ac t0 (aN 0) (aT 0) b0 s0 i0 e0 sd)), (b0, .inl (G.2.2.2, 14, .inr (.inr (.inr (.inr (va_up (va_up (va_up (va_up (va_up (va_up (va_up (va_up (va_up (va_up (va_up (va_up (va_up (va_up (kAO aB pi) 0 (some ((aB (pi 1)) 0))) 1 (some ((aB (pi 2)) 0))) 2 (some ((aB (pi 3)) 0))) 3 (some ((aB (pi 4)) 0))) 4 (some ((aB (pi 5)) 0))) 5 (some ((aB (pi 6)) 0))) 6 (some ((aB (pi 7)) 0))) 7 (some ((aB (pi 8)) 0))) 8 (some ((aB (pi 9)) 0))) 9 (some ((aB (pi 10)) 0))) 10 (some ((aB (pi 11)) 0))) 11 (some ((aB (pi 12)) 0))) 12 (some ((aB (pi 13)) 0))) 13 (some ((aB (pi 0)) 0))))))))] ++ (cW aN gN ++ (kWs aB gB n9))) H55 := hP55
  have hD57 : va_D A ([(h0, .inr (6, cQ ac t0 (aN 0) (aT 0) b0 s0 i0 e0 sd)), (b0, .inl (G.2.2.2, 14, .inr (.inr (.inr (.inr (va_up (va_up (va_up (va_up (va_up (va_up (va_up (va_up (va_up (va_up (va_up (va_up (va_up (va_up (kAO aB pi) 0 (some ((aB (pi 1)) 0))) 1 (some ((aB (pi 2)) 0))) 2 (some ((aB (pi 3)) 0))) 3 (some ((aB (pi 4)) 0))) 4 (some ((aB (pi 5)) 0))) 5 (some ((aB (pi 6)) 0))) 6 (some ((aB (pi 7)) 0))) 7 (some ((aB (pi 8)) 0))) 8 (some ((aB (pi 9)) 0))) 9 (some ((aB (pi 10)) 0))) 10 (some ((aB (pi 11)) 0))) 11 (some ((aB (pi 12)) 0))) 12 (some ((aB (pi 13)) 0))) 13 (some ((aB (pi 0)) 0))))))))] ++ (cW aN gN ++ (kWs aB gB n9))) := hD55
  have hP58 : va_P G.1 vwCl ([(h0, .inr (6, cQ ac t0 (aN 0) (aT 0) b0 s0 i0 e0 sd)), (b0, .inl (G.2.2.2, 14, .inr (.inr (.inr (.inr (kAO aB (kRot pi)))))))] ++ (cW aN gN ++ (kWs aB gB n9))) H55 := by rw [kRot_eq] at hP56; exact hP56
  have hD59 : va_D A ([(h0, .inr (6, cQ ac t0 (aN 0) (aT 0) b0 s0 i0 e0 sd)), (b0, .inl (G.2.2.2, 14, .inr (.inr (.inr (.inr (kAO aB (kRot pi)))))))] ++ (cW aN gN ++ (kWs aB gB n9))) := by rw [kRot_eq] at hD57; exact hD57
  refine lv_aload_n hx hb dX6_forgetFirstAct_43 rfl (lv_at hl54 2 rfl) ?_
  refine lv_bipush (v := 13) hx hb dX6_forgetFirstAct_44 (by decide) ?_
  refine va_put (ci := 6) (v := .int 13) (ty := .int) (C := RX6) (T := TX6) (N := 9) hx hb ht inX6 tyX6 tyX6_ok nmX6 hown hK.1 hP58 hD59 hS55 0 rfl rfl 4 (by decide) (ht _ q_267) (fun _ h9 => h9) rfl (by decide +kernel) rfl rfl (Nat.le_of_ble_eq_true rfl) dX6_forgetFirstAct_46 (fun H60 locs60 hP60 hD60 hS60 => ?_)
  have hP61 : va_P G.1 vwCl ([(h0, .inr (6, cQ (upd ac 0 13) t0 (aN 0) (aT 0) b0 s0 i0 e0 sd)), (b0, .inl (G.2.2.2, 14, .inr (.inr (.inr (.inr (kAO aB (kRot pi)))))))] ++ (cW aN gN ++ (kWs aB gB n9))) H60 := hP60
  have hD62 : va_D A ([(h0, .inr (6, cQ (upd ac 0 13) t0 (aN 0) (aT 0) b0 s0 i0 e0 sd)), (b0, .inl (G.2.2.2, 14, .inr (.inr (.inr (.inr (kAO aB (kRot pi)))))))] ++ (cW aN gN ++ (kWs aB gB n9))) := hD60
  exact k_vret kx hK hP61 hD62 hS60 (u := ()) rfl trivial dX6_forgetFirstAct_49
