/-! the first fault -/
def dg (A B : Nat) (s : Int32) : Prop := ∃ v : Nat, A ≤ v ∧ v ≤ B ∧ s = nI (48 + v)
theorem ksub48 {s : Int32} {v : Nat} : s - 48 = nI v ↔ s = nI (48 + v) := by
  constructor
  · intro h
    have : s - 48 + 48 = nI v + 48 := by rw [h]
    rw [Int32.sub_add_cancel] at this
    rw [this, show (48 : Int32) = nI 48 from rfl, nI_add, Nat.add_comm]
  · intro h
    rw [h, show (48 : Int32) = nI 48 from rfl, pk_sub (by omega), Nat.add_sub_cancel_left]
theorem kdg_in {s : Int32} {A B : Nat} {a b : Int64} (ha : a.toInt = (A : Int)) (hb : b.toInt = (B : Int)) (hB : B < 1000) : (¬ r_X7_in ((s - 48).toInt64) a b = 0) ↔ dg A B s := by
  rw [kin_iff]
  constructor
  · intro h
    by_cases c : a ≤ (s - 48).toInt64 ∧ (s - 48).toInt64 ≤ b
    · have h1 := Int64.le_iff_toInt_le.mp c.1
      have h2 := Int64.le_iff_toInt_le.mp c.2
      rw [Int32.toInt_toInt64] at h1 h2
      rw [ha] at h1
      rw [hb] at h2
      have h0 : ¬ (s - 48) < 0 := fun q => by
        have := Int32.lt_iff_toInt_lt.mp q
        have e0 : (0 : Int32).toInt = 0 := rfl
        omega
      obtain ⟨v, hv, e⟩ := nI_of h0
      rw [e, nI_toInt hv] at h1 h2
      exact ⟨v, by omega, by omega, ksub48.mp e⟩
    · rw [if_neg c] at h; exact absurd rfl h
  · rintro ⟨v, h1, h2, e⟩
    have e2 := ksub48.mpr e
    rw [e2, if_pos]
    · decide
    · exact ⟨Int64.le_iff_toInt_le.mpr (by rw [Int32.toInt_toInt64, nI_toInt (by omega), ha]; omega), Int64.le_iff_toInt_le.mpr (by rw [Int32.toInt_toInt64, nI_toInt (by omega), hb]; omega)⟩
theorem kdg_cl {s : Int32} {A B : Nat} (hA : A < 1000) (hB : B < 1000) : (¬ s < nI (48 + A) ∧ ¬ nI (48 + B) < s) ↔ dg A B s := by
  constructor
  · rintro ⟨h1, h2⟩
    have h0 : ¬ s < 0 := fun q => h1 (Int32.lt_of_lt_of_le q (nI_pos' (by omega)))
    obtain ⟨w, hw, rfl⟩ := knum (N := 48 + B) (by omega) h0 h2
    have : 48 + A ≤ w := by
      rcases Nat.lt_or_ge w (48 + A) with z | z
      · exact absurd (nI_lt z (by omega)) h1
      · exact z
    exact ⟨w - 48, by omega, by omega, by rw [show 48 + (w - 48) = w by omega]⟩
  · rintro ⟨v, h1, h2, rfl⟩
    exact ⟨nI_nlt (by omega) (by omega), nI_nlt (by omega) (by omega)⟩
theorem kfitE0 {s : Int32} (h1 : ¬ s = 100) (h2 : ¬ s = 119) : (¬ r_X3_fitsEvent 0 s = 0) ↔ dg 1 9 s := by
  rw [← kdg_cl (by decide) (by decide)]
  unfold r_X3_fitsEvent
  rw [if_pos rfl, if_neg h1, if_neg h2]
  by_cases c1 : s < 49
  · rw [if_pos c1]; exact ⟨fun q => absurd rfl q, fun q => absurd c1 q.1⟩
  · rw [if_neg c1]
    by_cases c2 : 57 < s
    · rw [if_pos c2]; exact ⟨fun q => absurd rfl q, fun q => absurd c2 q.2⟩
    · rw [if_neg c2]; exact ⟨fun _ => ⟨c1, c2⟩, fun _ => by decide⟩
theorem kfitE1 {s : Int32} : (¬ r_X3_fitsEvent 1 s = 0) ↔ dg 0 1 s := by
  unfold r_X3_fitsEvent
  rw [if_neg (by decide)]
  constructor
  · intro h
    by_cases c1 : s = 48
    · exact ⟨0, by omega, by omega, c1⟩
    · by_cases c2 : s = 49
      · exact ⟨1, by omega, by omega, c2⟩
      · rw [if_neg c1, if_neg c2] at h; exact absurd rfl h
  · rintro ⟨v, h1, h2, rfl⟩
    rcases (show v = 0 ∨ v = 1 by omega) with rfl | rfl <;> decide
theorem kfitH9 {j : Nat} (hj : j = 1 ∨ j = 2 ∨ j = 4 ∨ j = 5) {s : Int32} : (¬ r_X3_fitsHead (nI j) s = 0) ↔ dg 1 9 s := by
  rw [← kdg_cl (by decide) (by decide)]
  unfold r_X3_fitsHead
  rw [if_neg (by rcases hj with rfl | rfl | rfl | rfl <;> decide), if_neg (by rcases hj with rfl | rfl | rfl | rfl <;> decide)]
  by_cases c1 : s < 49
  · rw [if_pos c1]; exact ⟨fun q => absurd rfl q, fun q => absurd c1 q.1⟩
  · rw [if_neg c1]
    by_cases c2 : 57 < s
    · rw [if_pos c2]; exact ⟨fun q => absurd rfl q, fun q => absurd c2 q.2⟩
    · rw [if_neg c2]; exact ⟨fun _ => ⟨c1, c2⟩, fun _ => by decide⟩
theorem kfitH5 {j : Nat} (hj : j = 3 ∨ j = 6) {s : Int32} : (¬ r_X3_fitsHead (nI j) s = 0) ↔ dg 1 5 s := by
  rw [← kdg_cl (by decide) (by decide)]
  unfold r_X3_fitsHead
  rw [if_neg (by rcases hj with rfl | rfl <;> decide), if_pos (by rcases hj with rfl | rfl <;> decide)]
  by_cases c1 : s < 49
  · rw [if_pos c1]; exact ⟨fun q => absurd rfl q, fun q => absurd c1 q.1⟩
  · rw [if_neg c1]
    by_cases c2 : 53 < s
    · rw [if_pos c2]; exact ⟨fun q => absurd rfl q, fun q => absurd c2 q.2⟩
    · rw [if_neg c2]; exact ⟨fun _ => ⟨c1, c2⟩, fun _ => by decide⟩
theorem kdg_ne {A B : Nat} {s : Int32} (h : dg A B s) (hB : B ≤ 9) : ¬ s = 100 ∧ ¬ s = 119 := by
  obtain ⟨v, h1, h2, rfl⟩ := h
  exact ⟨fun q => by have := (nI_eq (b := 100) (by omega) (by decide)).mp q; omega, fun q => by have := (nI_eq (b := 119) (by omega) (by decide)).mp q; omega⟩
/-- one step in the head -/
theorem fp_head {L : Nat} {sg : Nat → Int32} {j n : Nat} (hL : L ≤ 70) (hj : j < 7) (hn : j + n = L) : l_X3_faultPlace_1_r L sg n j 0 = if j < L ∧ ¬ r_X3_fitsHead (nI j) (sg j) = 0 then l_X3_faultPlace_1_r L sg (n - 1) (j + 1) 0 else nI j := by
  cases n with
  | zero =>
    rw [l_X3_faultPlace_1_r, if_pos (show nI L < 7 from nI_lt (b := 7) (by omega) (by decide)), if_neg (by omega), show L = j by omega]
  | succ n =>
    rw [l_X3_faultPlace_1_r, if_neg (show ¬ 7 ≤ nI j from nI_ge (b := 7) hj (by decide))]
    by_cases c : r_X3_fitsHead (nI j) (sg j) = 0
    · rw [if_pos c, if_neg (fun q => q.2 c)]
    · rw [if_neg c, if_pos (show nI j < 7 from nI_lt (b := 7) hj (by decide)), if_pos ⟨by omega, c⟩]
      rfl
/-- one step behind the head -/
theorem fp_ev {L : Nat} {sg : Nat → Int32} {j n : Nat} (hL : L ≤ 70) (hj : 7 ≤ j) (hn : j + (n + 1) = L) (ev : Int32) : l_X3_faultPlace_1_r L sg (n + 1) j ev = if r_X3_fitsEvent ev (sg j) = 0 then nI j else if sg j = 100 then l_X3_faultPlace_1_r L sg n (j + 1) 1 else if sg j = 119 then l_X3_faultPlace_1_r L sg n (j + 1) 1 else l_X3_faultPlace_1_r L sg n (j + 1) 0 := by
  rw [l_X3_faultPlace_1_r, if_pos (show 7 ≤ nI j from nI_le (a := 7) hj (by omega)), if_neg (show ¬ nI j < 7 from nI_nlt (b := 7) hj (by omega))]
theorem fp_end {L : Nat} {sg : Nat → Int32} {j : Nat} (hL : 7 ≤ L ∧ L ≤ 70) : l_X3_faultPlace_1_r L sg 0 j 0 = -9 ∧ l_X3_faultPlace_1_r L sg 0 j 1 = nI L := by
  rw [l_X3_faultPlace_1_r, l_X3_faultPlace_1_r, if_neg (show ¬ nI L < 7 from nI_nlt (b := 7) hL.1 (by omega)), if_pos rfl, if_neg (show ¬ nI L < 7 from nI_nlt (b := 7) hL.1 (by omega)), if_neg (by decide)]
  exact ⟨rfl, rfl⟩
theorem q_ev {L : Nat} {sg tx : Nat → Int32} (hL : 7 ≤ L ∧ L ≤ 70) (ht : ∀ i, i < L → tx i = sg i) : ∀ (f i p m : Nat) (re : Nat → Int32), 7 ≤ p → p ≤ L → L < p + f → l_X3_faultPlace_1_r L sg (L - p) p 0 = l_X7_readLink_1_r L tx f i p m re
  | 0, i, p, m, re, h7, hp, hf => absurd hf (by omega)
  | f + 1, i, p, m, re, h7, hp, hf => by
    rw [l_X7_readLink_1_r]
    by_cases e : p = L
    · subst e
      rw [Nat.sub_self, if_pos (Int32.le_refl _)]
      exact (fp_end hL).1
    · have hlt : p < L := by omega
      have two : ∀ (re2 : Nat → Int32), (l_X3_faultPlace_1_r L sg (L - p - 1) (p + 1) 1 = if kfig L tx (p + 1) 0 1 then l_X7_readLink_1_r L tx f (i + 1) ((p + 1) + 1) (m + 1) re2 else nI (p + 1)) := fun re2 => by
        by_cases e2 : p + 1 = L
        · rw [show L - p - 1 = 0 by omega, if_neg (fun q => absurd q.1 (by omega)), (fp_end hL).2, e2]
        · rw [show L - p - 1 = (L - p - 2) + 1 by omega, fp_ev hL.2 (by omega) (by omega)]
          have hq : kfig L tx (p + 1) 0 1 ↔ dg 0 1 (sg (p + 1)) := by
            rw [← ht (p + 1) (by omega)]
            exact ⟨fun z => (kdg_in (A := 0) (B := 1) rfl rfl (by decide)).mp z.2, fun z => ⟨by omega, (kdg_in (A := 0) (B := 1) rfl rfl (by decide)).mpr z⟩⟩
          by_cases c : r_X3_fitsEvent 1 (sg (p + 1)) = 0
          · rw [if_pos c, if_neg (fun z => (kfitE1.mpr (hq.mp z)) c)]
          · have hd := kfitE1.mp c
            obtain ⟨n1, n2⟩ := kdg_ne hd (by decide)
            rw [if_neg c, if_neg n1, if_neg n2, if_pos (hq.mpr hd)]
            have := q_ev hL ht f (i + 1) ((p + 1) + 1) (m + 1) re2 (by omega) (by omega) (by omega)
            rw [show L - p - 2 = L - ((p + 1) + 1) by omega]
            exact this
      rw [if_neg (nI_ge hlt (by omega)), show L - p = (L - p - 1) + 1 by omega, fp_ev hL.2 h7 (by omega)]
      by_cases c1 : sg p = 100
      · rw [if_neg (show ¬ r_X3_fitsEvent 0 (sg p) = 0 by rw [c1]; decide), if_pos c1, if_pos ((ht p hlt).trans c1)]; exact two _
      · by_cases c2 : sg p = 119
        · rw [if_neg (show ¬ r_X3_fitsEvent 0 (sg p) = 0 by rw [c2]; decide), if_neg c1, if_pos c2, if_neg (fun q => c1 ((ht p hlt).symm.trans q)), if_pos ((ht p hlt).trans c2)]; exact two _
        · rw [if_neg c1, if_neg c2, if_neg (fun q => c1 ((ht p hlt).symm.trans q)), if_neg (fun q => c2 ((ht p hlt).symm.trans q))]
          have hq : kfig L tx p 1 9 ↔ dg 1 9 (sg p) := by
            rw [← ht p hlt]
            exact ⟨fun z => (kdg_in (A := 1) (B := 9) rfl rfl (by decide)).mp z.2, fun z => ⟨hlt, (kdg_in (A := 1) (B := 9) rfl rfl (by decide)).mpr z⟩⟩
          by_cases c : r_X3_fitsEvent 0 (sg p) = 0
          · rw [if_pos c, if_neg (fun z => ((kfitE0 c1 c2).mpr (hq.mp z)) c)]
          · rw [if_neg c, if_pos (hq.mpr ((kfitE0 c1 c2).mp c))]
            have := q_ev hL ht f (i + 1) (p + 1) (m + 1) (upd re m (tx p - 48)) (by omega) (by omega) (by omega)
            rw [show L - p - 1 = L - (p + 1) by omega]
            exact this
theorem q_fault {L : Nat} {sg tx : Nat → Int32} (hL : L ≤ 70) (ht : ∀ i, i < L → tx i = sg i) (re : Nat → Int32) : r_X3_faultPlace L sg = r_X7_readLink L tx re := by
  unfold r_X3_faultPlace r_X7_readLink
  rw [fp_head hL (by decide) (by omega)]
  by_cases z : L = 0
  · subst z
    rw [if_neg (fun q => absurd q.1 (by omega)), if_pos nI_0]
    rfl
  · rw [if_neg (show ¬ nI L = 0 from nI_ne0 (by omega) (by omega)), ht 0 (by omega)]
    by_cases c0 : sg 0 = 66
    · rw [if_pos c0, if_pos ⟨by omega, by rw [c0]; decide⟩]
      have q1 : kfig L tx 1 1 9 ↔ (1 < L ∧ ¬ r_X3_fitsHead (nI 1) (sg 1) = 0) := by
        rw [kfitH9 (j := 1) (by decide)]
        constructor
        · intro w; exact ⟨w.1, by rw [← ht 1 w.1]; exact (kdg_in (A := 1) (B := 9) rfl rfl (by decide)).mp w.2⟩
        · intro w; exact ⟨w.1, (kdg_in (A := 1) (B := 9) rfl rfl (by decide)).mpr (by have := w.2; rw [← ht 1 w.1] at this; exact this)⟩
      rw [show 0 + 1 = 1 from rfl, fp_head (j := 1) hL (by decide) (by omega)]
      by_cases c1 : 1 < L ∧ ¬ r_X3_fitsHead (nI 1) (sg 1) = 0
      · rw [if_pos c1, if_pos (q1.mpr c1)]
        have q2 : kfig L tx (1 + 1) 1 9 ↔ (2 < L ∧ ¬ r_X3_fitsHead (nI 2) (sg 2) = 0) := by
          rw [kfitH9 (j := 2) (by decide)]
          constructor
          · intro w; exact ⟨w.1, by rw [← ht 2 w.1]; exact (kdg_in (A := 1) (B := 9) rfl rfl (by decide)).mp w.2⟩
          · intro w; exact ⟨w.1, (kdg_in (A := 1) (B := 9) rfl rfl (by decide)).mpr (by have := w.2; rw [← ht 2 w.1] at this; exact this)⟩
        rw [fp_head (j := 2) hL (by decide) (by omega)]
        by_cases c2 : 2 < L ∧ ¬ r_X3_fitsHead (nI 2) (sg 2) = 0
        · rw [if_pos c2, if_pos (q2.mpr c2)]
          have q3 : kfig L tx ((1 + 1) + 1) 1 5 ↔ (3 < L ∧ ¬ r_X3_fitsHead (nI 3) (sg 3) = 0) := by
            rw [kfitH5 (j := 3) (by decide)]
            constructor
            · intro w; exact ⟨w.1, by rw [← ht 3 w.1]; exact (kdg_in (A := 1) (B := 5) rfl rfl (by decide)).mp w.2⟩
            · intro w; exact ⟨w.1, (kdg_in (A := 1) (B := 5) rfl rfl (by decide)).mpr (by have := w.2; rw [← ht 3 w.1] at this; exact this)⟩
          rw [fp_head (j := 3) hL (by decide) (by omega)]
          by_cases c3 : 3 < L ∧ ¬ r_X3_fitsHead (nI 3) (sg 3) = 0
          · rw [if_pos c3, if_pos (q3.mpr c3)]
            have q4 : kfig L tx (((1 + 1) + 1) + 1) 1 9 ↔ (4 < L ∧ ¬ r_X3_fitsHead (nI 4) (sg 4) = 0) := by
              rw [kfitH9 (j := 4) (by decide)]
              constructor
              · intro w; exact ⟨w.1, by rw [← ht 4 w.1]; exact (kdg_in (A := 1) (B := 9) rfl rfl (by decide)).mp w.2⟩
              · intro w; exact ⟨w.1, (kdg_in (A := 1) (B := 9) rfl rfl (by decide)).mpr (by have := w.2; rw [← ht 4 w.1] at this; exact this)⟩
            rw [fp_head (j := 4) hL (by decide) (by omega)]
            by_cases c4 : 4 < L ∧ ¬ r_X3_fitsHead (nI 4) (sg 4) = 0
            · rw [if_pos c4, if_pos (q4.mpr c4)]
              have q5 : kfig L tx ((((1 + 1) + 1) + 1) + 1) 1 9 ↔ (5 < L ∧ ¬ r_X3_fitsHead (nI 5) (sg 5) = 0) := by
                rw [kfitH9 (j := 5) (by decide)]
                constructor
                · intro w; exact ⟨w.1, by rw [← ht 5 w.1]; exact (kdg_in (A := 1) (B := 9) rfl rfl (by decide)).mp w.2⟩
                · intro w; exact ⟨w.1, (kdg_in (A := 1) (B := 9) rfl rfl (by decide)).mpr (by have := w.2; rw [← ht 5 w.1] at this; exact this)⟩
              rw [fp_head (j := 5) hL (by decide) (by omega)]
              by_cases c5 : 5 < L ∧ ¬ r_X3_fitsHead (nI 5) (sg 5) = 0
              · rw [if_pos c5, if_pos (q5.mpr c5)]
                have q6 : kfig L tx (((((1 + 1) + 1) + 1) + 1) + 1) 1 5 ↔ (6 < L ∧ ¬ r_X3_fitsHead (nI 6) (sg 6) = 0) := by
                  rw [kfitH5 (j := 6) (by decide)]
                  constructor
                  · intro w; exact ⟨w.1, by rw [← ht 6 w.1]; exact (kdg_in (A := 1) (B := 5) rfl rfl (by decide)).mp w.2⟩
                  · intro w; exact ⟨w.1, (kdg_in (A := 1) (B := 5) rfl rfl (by decide)).mpr (by have := w.2; rw [← ht 6 w.1] at this; exact this)⟩
                rw [fp_head (j := 6) hL (by decide) (by omega)]
                by_cases c6 : 6 < L ∧ ¬ r_X3_fitsHead (nI 6) (sg 6) = 0
                · rw [if_pos c6, if_pos (q6.mpr c6)]
                  have h7 : 7 ≤ L := by have := c6.1; omega
                  have := q_ev ⟨h7, hL⟩ ht (L + 1) 0 7 0 re (by decide) h7 (by omega)
                  rw [show L - 1 - 1 - 1 - 1 - 1 - 1 - 1 = L - 7 by omega]
                  exact this
                · rw [if_neg c6, if_neg (fun w => c6 (q6.mp w))]
              · rw [if_neg c5, if_neg (fun w => c5 (q5.mp w))]
            · rw [if_neg c4, if_neg (fun w => c4 (q4.mp w))]
          · rw [if_neg c3, if_neg (fun w => c3 (q3.mp w))]
        · rw [if_neg c2, if_neg (fun w => c2 (q2.mp w))]
      · rw [if_neg c1, if_neg (fun w => c1 (q1.mp w))]; rfl
    · have hn : r_X3_fitsHead (nI 0) (sg 0) = 0 := by
        unfold r_X3_fitsHead
        rw [if_pos nI_0, if_neg c0]
      rw [if_neg c0, if_neg (fun q => q.2 hn)]
      rfl
