/-! the book of what was ahead of the acts -/
theorem lnote_d (d : Nat) (pg : Nat → Int32) (q : Nat) : ∀ (n j : Nat) (bk : Nat → Int32), l_X7_note_d_1_bk d pg n j bk q = if 55 * d + j ≤ q ∧ q < 55 * d + j + n then pg (q - 55 * d) else bk q
  | 0, j, bk => by rw [l_X7_note_d_1_bk, if_neg (by omega)]
  | n + 1, j, bk => by
    rw [l_X7_note_d_1_bk, lnote_d d pg q n (j + 1)]
    by_cases h : q = 55 * d + j
    · subst h
      rw [if_neg (by omega), if_pos (by omega), pk_us, Nat.add_sub_cancel_left]
    · rw [pk_un h]
      by_cases h2 : 55 * d + (j + 1) ≤ q ∧ q < 55 * d + (j + 1) + n
      · rw [if_pos h2, if_pos (by omega)]
      · rw [if_neg h2, if_neg (by omega)]
theorem lnote_f2 (pg : Nat → Int32) (q : Nat) : ∀ (n j : Nat) (bk : Nat → Int32), l_X7_note_f_2_bk pg n j bk q = if 715 + j ≤ q ∧ q < 715 + j + n then pg (q - 715) else bk q
  | 0, j, bk => by rw [l_X7_note_f_2_bk, if_neg (by omega)]
  | n + 1, j, bk => by
    rw [l_X7_note_f_2_bk, lnote_f2 pg q n (j + 1)]
    by_cases h : q = 715 + j
    · subst h
      rw [if_neg (by omega), if_pos (by omega), pk_us, Nat.add_sub_cancel_left]
    · rw [pk_un h]
      by_cases h2 : 715 + (j + 1) ≤ q ∧ q < 715 + (j + 1) + n
      · rw [if_pos h2, if_pos (by omega)]
      · rw [if_neg h2, if_neg (by omega)]
theorem lnote_f (pg : Nat → Int32) (q : Nat) (hq : q < 715) : ∀ (n j : Nat) (bk : Nat → Int32), j + n = 715 → l_X7_note_f_1_bk pg n j bk q = if j ≤ q then bk (q + 55) else bk q
  | 0, j, bk, hj => by rw [l_X7_note_f_1_bk, lnote_f2, if_neg (by omega), if_neg (by omega)]
  | n + 1, j, bk, hj => by
    rw [l_X7_note_f_1_bk, lnote_f pg q hq n (j + 1) _ (by omega)]
    by_cases h : q = j
    · subst h
      rw [if_neg (by omega), if_pos (by omega), pk_us]
    · by_cases h2 : j + 1 ≤ q
      · rw [if_pos h2, if_pos (by omega), pk_un (by omega)]
      · rw [if_neg h2, if_neg (by omega), pk_un h]
theorem lnote_f3 (pg : Nat → Int32) (q : Nat) (hq : 715 ≤ q ∧ q < 770) : ∀ (n j : Nat) (bk : Nat → Int32), l_X7_note_f_1_bk pg n j bk q = pg (q - 715)
  | 0, j, bk => by rw [l_X7_note_f_1_bk, lnote_f2, if_pos (by omega)]
  | n + 1, j, bk => by rw [l_X7_note_f_1_bk, lnote_f3 pg q hq n (j + 1)]
/-- the worlds ahead of the acts, and the book -/
def rB (d : Nat) (pi : Nat → Nat) (gB : Nat → Nat → Nat → Int32) (bk : Nat → Int32) : Prop := (∀ i, i < 14 → pi i < 14) ∧ (∀ i j, i < 14 → j < 14 → pi i = pi j → i = j) ∧ (∀ j, j < 14 → bW (gB j)) ∧ ∀ i, i < d → rW (gB (pi i)) (fun k => bk (55 * i + k))
theorem kRot_inj {pi : Nat → Nat} (h : ∀ i j, i < 14 → j < 14 → pi i = pi j → i = j) : ∀ i j, i < 14 → j < 14 → kRot pi i = kRot pi j → i = j := by
  intro i j hi hj e
  unfold kRot at e
  by_cases c1 : i < 13
  · rw [if_pos c1] at e
    by_cases c2 : j < 13
    · rw [if_pos c2] at e
      have := h _ _ (by omega) (by omega) e
      omega
    · rw [if_neg c2, if_pos (by omega)] at e
      have := h _ _ (by omega) (by omega) e
      omega
  · rw [if_neg c1, if_pos (by omega)] at e
    by_cases c2 : j < 13
    · rw [if_pos c2] at e
      have := h _ _ (by omega) (by omega) e
      omega
    · omega
theorem rB_note {d : Nat} {pi : Nat → Nat} {gB : Nat → Nat → Nat → Int32} {gN : Nat → Nat → Int32} {bk pg : Nat → Int32} (h : rB d pi gB bk) (hd : d ≤ 14) (hw : rW gN pg) : rB (kNoteD d) (kPi d pi) (va_up gB (kPi d pi (kNoteD d - 1)) gN) (kNoteB d bk pg) := by
  obtain ⟨h1, h2, h3, h4⟩ := h
  have hD := kNoteD_le hd
  have hD1 : 1 ≤ kNoteD d := by unfold kNoteD; split <;> omega
  have p1 : ∀ i, i < 14 → kPi d pi i < 14 := kPi_lt h1
  have p2 : ∀ i j, i < 14 → j < 14 → kPi d pi i = kPi d pi j → i = j := by
    unfold kPi
    split
    · exact kRot_inj h2
    · exact h2
  refine ⟨p1, p2, fun j hj => ?_, fun i hi => ?_⟩
  · by_cases e : j = kPi d pi (kNoteD d - 1)
    · rw [show va_up gB (kPi d pi (kNoteD d - 1)) gN j = gN from if_pos e]; exact hw.2.2.2.2.2.1
    · rw [show va_up gB (kPi d pi (kNoteD d - 1)) gN j = gB j from if_neg e]; exact h3 j hj
  · by_cases e : i = kNoteD d - 1
    · subst e
      rw [show va_up gB (kPi d pi (kNoteD d - 1)) gN (kPi d pi (kNoteD d - 1)) = gN from if_pos rfl]
      refine rW_fr hw (fun k hk => ?_)
      show kNoteB d bk pg (55 * (kNoteD d - 1) + k) = pg k
      unfold kNoteB
      by_cases c : d = 14
      · subst c
        rw [if_pos rfl, show kNoteD 14 = 14 from rfl]
        unfold s_X7_note_f_bk
        rw [lnote_f3 pg _ (by omega), show 55 * (14 - 1) + k - 715 = k by omega]
      · rw [if_neg c, show kNoteD d = d + 1 from if_neg c]
        unfold s_X7_note_d_bk
        rw [lnote_d, if_pos (by omega), show 55 * (d + 1 - 1) + k - 55 * d = k by rw [Nat.add_sub_cancel, Nat.add_sub_cancel_left]]
    · have ne : ¬ kPi d pi i = kPi d pi (kNoteD d - 1) := fun q => e (p2 _ _ (by omega) (by omega) q)
      rw [show va_up gB (kPi d pi (kNoteD d - 1)) gN (kPi d pi i) = gB (kPi d pi i) from if_neg ne]
      by_cases c : d = 14
      · subst c
        have hi13 : i < 13 := by have : kNoteD 14 = 14 := rfl; omega
        rw [show kPi 14 pi i = pi (i + 1) from by unfold kPi kRot; rw [if_pos rfl, if_pos hi13]]
        refine rW_fr (h4 (i + 1) (by omega)) (fun k hk => ?_)
        show kNoteB 14 bk pg (55 * i + k) = bk (55 * (i + 1) + k)
        unfold kNoteB s_X7_note_f_bk
        rw [if_pos rfl, lnote_f pg _ (by omega) 715 0 bk rfl, if_pos (by omega), show 55 * i + k + 55 = 55 * (i + 1) + k by omega]
      · have hi2 : i < d := by have : kNoteD d = d + 1 := if_neg c; omega
        rw [show kPi d pi i = pi i from by unfold kPi; rw [if_neg c]]
        refine rW_fr (h4 i hi2) (fun k hk => ?_)
        show kNoteB d bk pg (55 * i + k) = bk (55 * i + k)
        unfold kNoteB s_X7_note_d_bk
        rw [if_neg c, lnote_d, if_neg (by omega)]
theorem lundo_pg (d : Nat) (bk : Nat → Int32) (q : Nat) : ∀ (n j : Nat) (pg : Nat → Int32), l_X7_undo_1_pg d bk n j pg q = if j ≤ q ∧ q < j + n then bk (55 * (d - 1) + q) else pg q
  | 0, j, pg => by rw [l_X7_undo_1_pg, if_neg (by omega)]
  | n + 1, j, pg => by
    rw [l_X7_undo_1_pg, lundo_pg d bk q n (j + 1)]
    by_cases h : q = j
    · subst h
      rw [if_neg (by omega), if_pos (by omega), pk_us]
    · rw [pk_un h]
      by_cases h2 : j + 1 ≤ q ∧ q < j + 1 + n
      · rw [if_pos h2, if_pos (by omega)]
      · rw [if_neg h2, if_neg (by omega)]
theorem lundo_r (d : Nat) (bk : Nat → Int32) : ∀ (n j : Nat) (pg : Nat → Int32), l_X7_undo_1_r d bk n j pg = nI d - 1
  | 0, _, _ => by rw [l_X7_undo_1_r]
  | n + 1, j, pg => by rw [l_X7_undo_1_r, lundo_r d bk n (j + 1)]
theorem lundo_Z (Z : Nat → Int32) (d : Nat) (bk : Nat → Int32) : ∀ (n j : Nat) (pg : Nat → Int32), l_X7_undo_1_Z Z d bk n j pg = upd (upd (upd Z 10 (nI d)) 0 0) 10 (nI d - 1)
  | 0, _, _ => by rw [l_X7_undo_1_Z]
  | n + 1, j, pg => by rw [l_X7_undo_1_Z, lundo_Z Z d bk n (j + 1)]
theorem q_undo {d : Nat} {pi : Nat → Nat} {gB : Nat → Nat → Nat → Int32} {gN : Nat → Nat → Int32} {bk pg : Nat → Int32} (h : rB d pi gB bk) (hd : d ≤ 14) (hw : rW gN pg) (Z : Nat → Int32) : r_X6_undo d = r_X7_undo d pg bk ∧ ∃ d1, d1 ≤ 14 ∧ s_X6_undo_ac d = kc (nI d1) ∧ rW (s_X6_undo_gN d pi gN gB) (s_X7_undo_pg d pg bk) ∧ rB d1 pi gB bk ∧ s_X7_undo_Z Z d pg bk 10 = nI d1 ∧ ∀ k, k = 2 ∨ k = 13 → s_X7_undo_Z Z d pg bk k = Z k := by
  unfold r_X6_undo r_X7_undo s_X6_undo_ac s_X6_undo_gN s_X7_undo_pg s_X7_undo_Z
  by_cases c : d = 0
  · subst c
    rw [if_pos (show nI 0 < 1 by decide), if_pos (show nI 0 = 0 from rfl), if_pos (show nI 0 < 1 by decide), if_pos (show nI 0 < 1 by decide), if_pos (show nI 0 = 0 from rfl), if_pos (show nI 0 = 0 from rfl)]
    exact ⟨rfl, 0, by decide, rfl, hw, h, rfl, fun k hk => by rcases hk with rfl | rfl <;> rfl⟩
  · have n1 : ¬ nI d < 1 := nI_nlt (a := d) (b := 1) (by omega) (by omega)
    have n0 : ¬ nI d = 0 := nI_ne0 (by omega) (by omega)
    rw [if_neg n1, if_neg n0, if_neg n1, if_neg n1, if_neg n0, if_neg n0, lundo_r, lundo_Z]
    have e : nI d - 1 = nI (d - 1) := pk_sub (b := 1) (by omega)
    refine ⟨rfl, d - 1, by omega, by rw [e], ?_, ⟨h.1, h.2.1, h.2.2.1, fun i hi => h.2.2.2 i (by omega)⟩, e, fun k hk => by rcases hk with rfl | rfl <;> rfl⟩
    refine rW_fr (h.2.2.2 (d - 1) (by omega)) (fun k hk => ?_)
    rw [lundo_pg, if_pos (by omega)]
theorem lkeep_kp_0 (pg : Nat → Int32) (q : Nat) : ∀ (n j : Nat) (kp : Nat → Int32), l_X7_keep_0_1_kp pg n j kp q = if 0 + j ≤ q ∧ q < 0 + j + n then pg (q - 0) else kp q
  | 0, j, kp => by rw [l_X7_keep_0_1_kp, if_neg (by omega)]
  | n + 1, j, kp => by
    rw [l_X7_keep_0_1_kp, lkeep_kp_0 pg q n (j + 1)]
    by_cases h : q = 0 + j
    · subst h
      rw [if_neg (by omega), if_pos (by omega), pk_us, Nat.add_sub_cancel_left]
    · rw [pk_un h]
      by_cases h2 : 0 + (j + 1) ≤ q ∧ q < 0 + (j + 1) + n
      · rw [if_pos h2, if_pos (by omega)]
      · rw [if_neg h2, if_neg (by omega)]
theorem lkeep_r_0 (pg : Nat → Int32) : ∀ (n j : Nat) (kp : Nat → Int32), l_X7_keep_0_1_r pg n j kp = pg 52
  | 0, _, _ => by rw [l_X7_keep_0_1_r]
  | n + 1, j, kp => by rw [l_X7_keep_0_1_r, lkeep_r_0 pg n (j + 1)]
theorem lkeep_Z_0 (Z pg : Nat → Int32) : ∀ (n j : Nat) (kp : Nat → Int32), l_X7_keep_0_1_Z Z pg n j kp = upd Z 0 0
  | 0, _, _ => by rw [l_X7_keep_0_1_Z]
  | n + 1, j, kp => by rw [l_X7_keep_0_1_Z, lkeep_Z_0 Z pg n (j + 1)]
theorem lkeep_ik_0 (pg ik : Nat → Int32) : ∀ (n j : Nat) (kp : Nat → Int32), l_X7_keep_0_1_ik pg ik n j kp = upd ik 0 1
  | 0, _, _ => by rw [l_X7_keep_0_1_ik]
  | n + 1, j, kp => by rw [l_X7_keep_0_1_ik, lkeep_ik_0 pg ik n (j + 1)]
theorem lagain_pg_0 (kp : Nat → Int32) (q : Nat) : ∀ (n j : Nat) (pg : Nat → Int32), l_X7_again_0_1_pg kp n j pg q = if j ≤ q ∧ q < j + n then kp (0 + q) else pg q
  | 0, j, pg => by rw [l_X7_again_0_1_pg, if_neg (by omega)]
  | n + 1, j, pg => by
    rw [l_X7_again_0_1_pg, lagain_pg_0 kp q n (j + 1)]
    by_cases h : q = j
    · subst h
      rw [if_neg (by omega), if_pos (by omega), pk_us]
    · rw [pk_un h]
      by_cases h2 : j + 1 ≤ q ∧ q < j + 1 + n
      · rw [if_pos h2, if_pos (by omega)]
      · rw [if_neg h2, if_neg (by omega)]
theorem lagain_r_0 (kp : Nat → Int32) : ∀ (n j : Nat) (pg : Nat → Int32), l_X7_again_0_1_r kp n j pg = l_X7_again_0_1_pg kp n j pg 52
  | 0, _, _ => by rw [l_X7_again_0_1_r, l_X7_again_0_1_pg]
  | n + 1, j, pg => by rw [l_X7_again_0_1_r, l_X7_again_0_1_pg, lagain_r_0 kp n (j + 1)]
theorem lagain_Z_0 (Z kp : Nat → Int32) : ∀ (n j : Nat) (pg : Nat → Int32), l_X7_again_0_1_Z Z kp n j pg = upd (upd Z 0 0) 10 0
  | 0, _, _ => by rw [l_X7_again_0_1_Z]
  | n + 1, j, pg => by rw [l_X7_again_0_1_Z, lagain_Z_0 Z kp n (j + 1)]
theorem lkeep_kp_1 (pg : Nat → Int32) (q : Nat) : ∀ (n j : Nat) (kp : Nat → Int32), l_X7_keep_1_1_kp pg n j kp q = if 55 + j ≤ q ∧ q < 55 + j + n then pg (q - 55) else kp q
  | 0, j, kp => by rw [l_X7_keep_1_1_kp, if_neg (by omega)]
  | n + 1, j, kp => by
    rw [l_X7_keep_1_1_kp, lkeep_kp_1 pg q n (j + 1)]
    by_cases h : q = 55 + j
    · subst h
      rw [if_neg (by omega), if_pos (by omega), pk_us, Nat.add_sub_cancel_left]
    · rw [pk_un h]
      by_cases h2 : 55 + (j + 1) ≤ q ∧ q < 55 + (j + 1) + n
      · rw [if_pos h2, if_pos (by omega)]
      · rw [if_neg h2, if_neg (by omega)]
theorem lkeep_r_1 (pg : Nat → Int32) : ∀ (n j : Nat) (kp : Nat → Int32), l_X7_keep_1_1_r pg n j kp = pg 52
  | 0, _, _ => by rw [l_X7_keep_1_1_r]
  | n + 1, j, kp => by rw [l_X7_keep_1_1_r, lkeep_r_1 pg n (j + 1)]
theorem lkeep_Z_1 (Z pg : Nat → Int32) : ∀ (n j : Nat) (kp : Nat → Int32), l_X7_keep_1_1_Z Z pg n j kp = upd Z 0 0
  | 0, _, _ => by rw [l_X7_keep_1_1_Z]
  | n + 1, j, kp => by rw [l_X7_keep_1_1_Z, lkeep_Z_1 Z pg n (j + 1)]
theorem lkeep_ik_1 (pg ik : Nat → Int32) : ∀ (n j : Nat) (kp : Nat → Int32), l_X7_keep_1_1_ik pg ik n j kp = upd ik 1 1
  | 0, _, _ => by rw [l_X7_keep_1_1_ik]
  | n + 1, j, kp => by rw [l_X7_keep_1_1_ik, lkeep_ik_1 pg ik n (j + 1)]
theorem lagain_pg_1 (kp : Nat → Int32) (q : Nat) : ∀ (n j : Nat) (pg : Nat → Int32), l_X7_again_1_1_pg kp n j pg q = if j ≤ q ∧ q < j + n then kp (55 + q) else pg q
  | 0, j, pg => by rw [l_X7_again_1_1_pg, if_neg (by omega)]
  | n + 1, j, pg => by
    rw [l_X7_again_1_1_pg, lagain_pg_1 kp q n (j + 1)]
    by_cases h : q = j
    · subst h
      rw [if_neg (by omega), if_pos (by omega), pk_us]
    · rw [pk_un h]
      by_cases h2 : j + 1 ≤ q ∧ q < j + 1 + n
      · rw [if_pos h2, if_pos (by omega)]
      · rw [if_neg h2, if_neg (by omega)]
theorem lagain_r_1 (kp : Nat → Int32) : ∀ (n j : Nat) (pg : Nat → Int32), l_X7_again_1_1_r kp n j pg = l_X7_again_1_1_pg kp n j pg 52
  | 0, _, _ => by rw [l_X7_again_1_1_r, l_X7_again_1_1_pg]
  | n + 1, j, pg => by rw [l_X7_again_1_1_r, l_X7_again_1_1_pg, lagain_r_1 kp n (j + 1)]
theorem lagain_Z_1 (Z kp : Nat → Int32) : ∀ (n j : Nat) (pg : Nat → Int32), l_X7_again_1_1_Z Z kp n j pg = upd (upd Z 0 0) 10 0
  | 0, _, _ => by rw [l_X7_again_1_1_Z]
  | n + 1, j, pg => by rw [l_X7_again_1_1_Z, lagain_Z_1 Z kp n (j + 1)]
