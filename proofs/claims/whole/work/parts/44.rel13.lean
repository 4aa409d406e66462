theorem kLt {L : Nat} (h : L ≤ 70) : (nI L < 70 ↔ L < 70) ∧ (nI L = 70 ↔ L = 70) := ⟨nI_ltI (a := L) (b := 70) (by omega) (by decide), nI_eq (a := L) (b := 70) (by omega) (by decide)⟩
theorem st_write {n9 d L z : Nat} {pi : Nat → Nat} {sg ik tk en mo : Nat → Int32} {gN gS0 gS1 : Nat → Nat → Int32} {gB : Nat → Nat → Nat → Int32} {Z tx pg bk kp jk sa se sm : Nat → Int32} (h : rR n9 d L z pi sg ik tk en mo gN gS0 gS1 gB Z tx pg bk kp jk sa se sm) (p0 : Int32) : r_X6_write L p0 = r_X7_write L p0 ∧ ∃ L1, s_X6_write_tx L p0 = kc (nI L1) ∧ rR n9 d L1 z pi (s_X6_write_sg L sg p0) ik tk en mo gN gS0 gS1 gB (s_X7_write_Z Z L p0) (s_X7_write_tx L tx p0) pg bk kp jk sa se sm := by
  have hh := h
  obtain ⟨a, b, c, e, ⟨f1, f2, f3⟩, g, i, j, k⟩ := h
  obtain ⟨k1, k2⟩ := kLt c
  have zz : ∀ q, q = 2 ∨ q = 10 ∨ q = 13 → (upd (upd Z 2 (nI L)) 0 0) q = Z q := fun q hq => by
    rcases hq with rfl | rfl | rfl
    · exact f1.symm
    · rfl
    · rfl
  unfold r_X6_write r_X7_write s_X6_write_tx s_X6_write_sg s_X7_write_Z s_X7_write_tx
  by_cases c0 : p0 < 0
  · have q := (kin32 (x := p0) (a := 0) (b := 255) (A := 0) (B := 255) rfl rfl).mpr (Or.inl c0)
    simp only [if_pos c0, if_pos q]
    exact ⟨by first | trivial | rfl, L, rfl, rR_Z hh zz⟩
  · by_cases c1 : 255 < p0
    · have q := (kin32 (x := p0) (a := 0) (b := 255) (A := 0) (B := 255) rfl rfl).mpr (Or.inr c1)
      simp only [if_neg c0, if_neg (Int32.not_le.mpr c1), if_pos q]
      exact ⟨by first | trivial | rfl, L, rfl, rR_Z hh zz⟩
    · have q : ¬ r_X7_in p0.toInt64 0 255 = 0 := fun q => ((kin32 (a := 0) (b := 255) rfl rfl).mp q).elim c0 c1
      by_cases c2 : L = 70
      · simp only [if_neg c0, if_pos (Int32.not_lt.mp c1), if_neg q, if_pos (k2.mpr c2), if_neg (fun w => absurd (k1.mp w) (by omega))]
        exact ⟨by first | trivial | rfl, L, rfl, rR_Z hh zz⟩
      · simp only [if_neg c0, if_pos (Int32.not_lt.mp c1), if_neg q, if_neg (fun w => c2 (k2.mp w)), if_pos (k1.mpr (by omega))]
        refine ⟨by first | trivial | rfl, L + 1, by rw [nI_1], a, b, by omega, e, ⟨nI_1 L, f2, f3⟩, g, i, fun m hm => ?_, k⟩
        by_cases em : m = L
        · subst em; rw [pk_us, pk_us]
        · rw [pk_un em, pk_un em]; exact j m (by omega)
theorem st_wipe {n9 d L z : Nat} {pi : Nat → Nat} {sg ik tk en mo : Nat → Int32} {gN gS0 gS1 : Nat → Nat → Int32} {gB : Nat → Nat → Nat → Int32} {Z tx pg bk kp jk sa se sm : Nat → Int32} (h : rR n9 d L z pi sg ik tk en mo gN gS0 gS1 gB Z tx pg bk kp jk sa se sm) : nI L = Z 2 ∧ rR n9 d 0 z pi sg ik tk en mo gN gS0 gS1 gB (upd (upd Z 0 0) 2 0) tx pg bk kp jk sa se sm := by
  obtain ⟨a, b, c, e, ⟨f1, f2, f3⟩, g, i, j, k⟩ := h
  exact ⟨f1.symm, a, b, by decide, e, ⟨rfl, f2, f3⟩, g, i, fun m hm => absurd hm (by omega), k⟩
theorem st_unsee {n9 d L z : Nat} {pi : Nat → Nat} {sg ik tk en mo : Nat → Int32} {gN gS0 gS1 : Nat → Nat → Int32} {gB : Nat → Nat → Nat → Int32} {Z tx pg bk kp jk sa se sm : Nat → Int32} (h : rR n9 d L z pi sg ik tk en mo gN gS0 gS1 gB Z tx pg bk kp jk sa se sm) : nI z = Z 13 ∧ rR n9 d L 0 pi sg ik tk en mo gN gS0 gS1 gB (upd (upd Z 0 0) 13 0) tx pg bk kp jk sa se sm := by
  obtain ⟨a, b, c, e, ⟨f1, f2, f3⟩, g, i, j, k, l⟩ := h
  exact ⟨f3.symm, a, b, c, by decide, ⟨f1, f2, rfl⟩, g, i, j, k, fun m hm => absurd hm (by omega)⟩
theorem st_count {n9 d L z : Nat} {pi : Nat → Nat} {sg ik tk en mo : Nat → Int32} {gN gS0 gS1 : Nat → Nat → Int32} {gB : Nat → Nat → Nat → Int32} {Z tx pg bk kp jk sa se sm : Nat → Int32} (h : rR n9 d L z pi sg ik tk en mo gN gS0 gS1 gB Z tx pg bk kp jk sa se sm) (p0 : Int32) : r_X6_count (nI d) L z gN p0 = r_X7_count Z pg p0 ∧ rR n9 d L z pi sg ik tk en mo gN gS0 gS1 gB (s_X7_count_Z Z p0) tx pg bk kp jk sa se sm := by
  have hh := h
  obtain ⟨a, b, c, e, ⟨f1, f2, f3⟩, g, _⟩ := h
  refine ⟨?_, rR_Z hh (fun q hq => ?_)⟩
  · unfold r_X6_count r_X7_count
    rw [f1, f2, f3, g.2.2.2.2.1.1, g.2.2.2.2.1.2.1, g.2.2.2.2.1.2.2]
  · unfold s_X7_count_Z
    rcases hq with rfl | rfl | rfl <;> (repeat' split) <;> rfl
theorem st_see_0 {n9 d L z : Nat} {pi : Nat → Nat} {sg ik tk en mo : Nat → Int32} {gN gS0 gS1 : Nat → Nat → Int32} {gB : Nat → Nat → Nat → Int32} {Z tx pg bk kp jk sa se sm : Nat → Int32} (h : rR n9 d L z pi sg ik tk en mo gN gS0 gS1 gB Z tx pg bk kp jk sa se sm) (p0 p2 : Int32) : r_X6_see z p0 0 p2 = r_X7_see_0 z p0 p2 ∧ ∃ z1, s_X6_see_sz z p0 0 p2 = kc (nI z1) ∧ rR n9 d L z1 pi sg ik (s_X6_see_tk z tk p0 0 p2) (s_X6_see_en z en p0 0 p2) (s_X6_see_mo z mo p0 0 p2) gN gS0 gS1 gB (s_X7_see_0_Z Z z p0 p2) tx pg bk kp jk (s_X7_see_0_sa z sa p0 p2) (s_X7_see_0_se z se p0 p2) (s_X7_see_0_sm z sm p0 p2) := by
  have hh := h
  obtain ⟨a, b, c, e, ⟨f1, f2, f3⟩, g, i, j, k, l⟩ := h
  have k1 : nI z < 6 ↔ z < 6 := nI_ltI (a := z) (b := 6) (by omega) (by decide)
  have k2 : nI z = 6 ↔ z = 6 := nI_eq (a := z) (b := 6) (by omega) (by decide)
  have zz : ∀ q, q = 2 ∨ q = 10 ∨ q = 13 → (upd (upd Z 13 (nI z)) 0 0) q = Z q := fun q hq => by
    rcases hq with rfl | rfl | rfl
    · rfl
    · rfl
    · exact f3.symm
  unfold r_X6_see r_X7_see_0 s_X6_see_sz s_X6_see_tk s_X6_see_en s_X6_see_mo s_X7_see_0_Z s_X7_see_0_sa s_X7_see_0_se s_X7_see_0_sm
  simp only [if_neg kz0]
  by_cases c0 : p0 < 0
  · have q := (kin32 (x := p0) (a := 0) (b := 99) (A := 0) (B := 99) rfl rfl).mpr (Or.inl c0)
    simp only [if_pos c0, if_pos q]
    exact ⟨by first | trivial | rfl, z, rfl, rR_Z hh zz⟩
  · by_cases c1 : 99 < p0
    · have q := (kin32 (x := p0) (a := 0) (b := 99) (A := 0) (B := 99) rfl rfl).mpr (Or.inr c1)
      simp only [if_neg c0, if_pos c1, if_pos q]
      exact ⟨by first | trivial | rfl, z, rfl, rR_Z hh zz⟩
    · have q : ¬ r_X7_in p0.toInt64 0 99 = 0 := fun q => ((kin32 (a := 0) (b := 99) rfl rfl).mp q).elim c0 c1
      simp only [if_neg c0, if_neg c1, if_neg q]
      by_cases d0 : p2 < 0
      · have q2 := (kin32 (x := p2) (a := 0) (b := 2) (A := 0) (B := 2) rfl rfl).mpr (Or.inl d0)
        simp only [if_pos d0, if_pos q2]
        exact ⟨by first | trivial | rfl, z, rfl, rR_Z hh zz⟩
      · by_cases d1 : 2 < p2
        · have q2 := (kin32 (x := p2) (a := 0) (b := 2) (A := 0) (B := 2) rfl rfl).mpr (Or.inr d1)
          simp only [if_neg d0, if_neg (Int32.not_le.mpr d1), if_pos q2]
          exact ⟨by first | trivial | rfl, z, rfl, rR_Z hh zz⟩
        · have q2 : ¬ r_X7_in p2.toInt64 0 2 = 0 := fun q => ((kin32 (a := 0) (b := 2) rfl rfl).mp q).elim d0 d1
          by_cases c2 : z = 6
          · simp only [if_neg d0, if_pos (Int32.not_lt.mp d1), if_neg q2, if_pos (k2.mpr c2), if_neg (fun w => absurd (k1.mp w) (by omega))]
            exact ⟨by first | trivial | rfl, z, rfl, rR_Z hh zz⟩
          · simp only [if_neg d0, if_pos (Int32.not_lt.mp d1), if_neg q2, if_neg (fun w => c2 (k2.mp w)), if_pos (k1.mpr (by omega))]
            refine ⟨by first | trivial | rfl, z + 1, by rw [nI_1], a, b, c, by omega, ⟨f1, f2, nI_1 z⟩, g, i, j, k, fun m hm => ?_⟩
            by_cases em : m = z
            · subst em
              rw [pk_us, pk_us, pk_us, pk_us, pk_us, pk_us]
              exact ⟨rfl, rfl, rfl, Or.inl rfl, c0, c1⟩
            · rw [pk_un em, pk_un em, pk_un em, pk_un em, pk_un em, pk_un em]
              exact l m (by omega)
theorem st_keep_0 {n9 d L z : Nat} {pi : Nat → Nat} {sg ik tk en mo : Nat → Int32} {gN gS0 gS1 : Nat → Nat → Int32} {gB : Nat → Nat → Nat → Int32} {Z tx pg bk kp jk sa se sm : Nat → Int32} (h : rR n9 d L z pi sg ik tk en mo gN gS0 gS1 gB Z tx pg bk kp jk sa se sm) : gN 4 0 = r_X7_keep_0 pg kp ∧ rR n9 d L z pi sg (upd ik 0 1) tk en mo gN gN gS1 gB (s_X7_keep_0_Z Z pg kp) tx pg bk (s_X7_keep_0_kp pg kp) (s_X7_keep_0_ik pg kp jk) sa se sm := by
  have hh := h
  obtain ⟨a, b, c, e, ⟨f1, f2, f3⟩, g, i, j, ⟨k0, k1, k2, k3, k4, k5, k6, k7⟩, l⟩ := h
  unfold r_X7_keep_0 s_X7_keep_0_Z s_X7_keep_0_kp s_X7_keep_0_ik
  rw [lkeep_r_0, lkeep_Z_0, lkeep_ik_0]
  refine ⟨g.2.2.2.2.1.1.symm, a, b, c, e, ⟨f1, f2, f3⟩, g, i, j, ?_, l⟩
  have same : rW gN (fun k => l_X7_keep_0_1_kp pg 55 0 kp (0 + k)) := rW_fr g (fun k hk => by rw [lkeep_kp_0, if_pos (by omega), Nat.add_sub_cancel_left])
  have oth : ∀ q, (55 ≤ q) → l_X7_keep_0_1_kp pg 55 0 kp q = kp q := fun q hq => by rw [lkeep_kp_0, if_neg (by omega)]
  exact ⟨kb1, k1, rfl, k3, g.2.2.2.2.2.1, k5, fun _ => same, fun q => rW_fr (k7 q) (fun k hk => oth _ (by omega))⟩
theorem st_again_0 {n9 d L z : Nat} {pi : Nat → Nat} {sg ik tk en mo : Nat → Int32} {gN gS0 gS1 : Nat → Nat → Int32} {gB : Nat → Nat → Nat → Int32} {Z tx pg bk kp jk sa se sm : Nat → Int32} (h : rR n9 d L z pi sg ik tk en mo gN gS0 gS1 gB Z tx pg bk kp jk sa se sm) : r_X6_again_0 ik gS0 = r_X7_again_0 pg kp jk ∧ ∃ d1, s_X6_again_0_ac (nI d) ik = kc (nI d1) ∧ rR n9 d1 L z pi sg ik tk en mo (s_X6_again_0_gN ik gN gS0) gS0 gS1 gB (s_X7_again_0_Z Z pg kp jk) tx (s_X7_again_0_pg pg kp jk) bk kp jk sa se sm := by
  have hh := h
  obtain ⟨a, b, c, e, ⟨f1, f2, f3⟩, g, i, j, ⟨k0, k1, k2, k3, k4, k5, k6, k7⟩, l⟩ := h
  unfold r_X6_again_0 r_X7_again_0 s_X6_again_0_ac s_X6_again_0_gN s_X7_again_0_Z s_X7_again_0_pg
  rw [k2]
  by_cases q : ik 0 = 0
  · simp only [if_pos q]
    exact ⟨by first | trivial | rfl, d, rfl, rR_Z hh (fun k hk => by rcases hk with rfl | rfl | rfl <;> rfl)⟩
  · simp only [if_neg q, lagain_r_0, lagain_Z_0]
    have hs : rW gS0 (l_X7_again_0_1_pg kp 55 0 pg) := rW_fr (k6 (k0.resolve_left q)) (fun k hk => by rw [lagain_pg_0, if_pos (by omega)])
    exact ⟨hs.2.2.2.2.1.1.symm, 0, rfl, rR_act hh (by decide) hs ⟨i.1, i.2.1, i.2.2.1, fun m hm => absurd hm (by omega)⟩ rfl (fun k hk => by rcases hk with rfl | rfl <;> rfl)⟩
theorem st_see_1 {n9 d L z : Nat} {pi : Nat → Nat} {sg ik tk en mo : Nat → Int32} {gN gS0 gS1 : Nat → Nat → Int32} {gB : Nat → Nat → Nat → Int32} {Z tx pg bk kp jk sa se sm : Nat → Int32} (h : rR n9 d L z pi sg ik tk en mo gN gS0 gS1 gB Z tx pg bk kp jk sa se sm) (p0 p2 : Int32) : r_X6_see z p0 1 p2 = r_X7_see_1 z p0 p2 ∧ ∃ z1, s_X6_see_sz z p0 1 p2 = kc (nI z1) ∧ rR n9 d L z1 pi sg ik (s_X6_see_tk z tk p0 1 p2) (s_X6_see_en z en p0 1 p2) (s_X6_see_mo z mo p0 1 p2) gN gS0 gS1 gB (s_X7_see_1_Z Z z p0 p2) tx pg bk kp jk (s_X7_see_1_sa z sa p0 p2) (s_X7_see_1_se z se p0 p2) (s_X7_see_1_sm z sm p0 p2) := by
  have hh := h
  obtain ⟨a, b, c, e, ⟨f1, f2, f3⟩, g, i, j, k, l⟩ := h
  have k1 : nI z < 6 ↔ z < 6 := nI_ltI (a := z) (b := 6) (by omega) (by decide)
  have k2 : nI z = 6 ↔ z = 6 := nI_eq (a := z) (b := 6) (by omega) (by decide)
  have zz : ∀ q, q = 2 ∨ q = 10 ∨ q = 13 → (upd (upd Z 13 (nI z)) 0 0) q = Z q := fun q hq => by
    rcases hq with rfl | rfl | rfl
    · rfl
    · rfl
    · exact f3.symm
  unfold r_X6_see r_X7_see_1 s_X6_see_sz s_X6_see_tk s_X6_see_en s_X6_see_mo s_X7_see_1_Z s_X7_see_1_sa s_X7_see_1_se s_X7_see_1_sm
  simp only [if_neg kz1]
  by_cases c0 : p0 < 0
  · have q := (kin32 (x := p0) (a := 0) (b := 99) (A := 0) (B := 99) rfl rfl).mpr (Or.inl c0)
    simp only [if_pos c0, if_pos q]
    exact ⟨by first | trivial | rfl, z, rfl, rR_Z hh zz⟩
  · by_cases c1 : 99 < p0
    · have q := (kin32 (x := p0) (a := 0) (b := 99) (A := 0) (B := 99) rfl rfl).mpr (Or.inr c1)
      simp only [if_neg c0, if_pos c1, if_pos q]
      exact ⟨by first | trivial | rfl, z, rfl, rR_Z hh zz⟩
    · have q : ¬ r_X7_in p0.toInt64 0 99 = 0 := fun q => ((kin32 (a := 0) (b := 99) rfl rfl).mp q).elim c0 c1
      simp only [if_neg c0, if_neg c1, if_neg q]
      by_cases d0 : p2 < 0
      · have q2 := (kin32 (x := p2) (a := 0) (b := 2) (A := 0) (B := 2) rfl rfl).mpr (Or.inl d0)
        simp only [if_pos d0, if_pos q2]
        exact ⟨by first | trivial | rfl, z, rfl, rR_Z hh zz⟩
      · by_cases d1 : 2 < p2
        · have q2 := (kin32 (x := p2) (a := 0) (b := 2) (A := 0) (B := 2) rfl rfl).mpr (Or.inr d1)
          simp only [if_neg d0, if_neg (Int32.not_le.mpr d1), if_pos q2]
          exact ⟨by first | trivial | rfl, z, rfl, rR_Z hh zz⟩
        · have q2 : ¬ r_X7_in p2.toInt64 0 2 = 0 := fun q => ((kin32 (a := 0) (b := 2) rfl rfl).mp q).elim d0 d1
          by_cases c2 : z = 6
          · simp only [if_neg d0, if_pos (Int32.not_lt.mp d1), if_neg q2, if_pos (k2.mpr c2), if_neg (fun w => absurd (k1.mp w) (by omega))]
            exact ⟨by first | trivial | rfl, z, rfl, rR_Z hh zz⟩
          · simp only [if_neg d0, if_pos (Int32.not_lt.mp d1), if_neg q2, if_neg (fun w => c2 (k2.mp w)), if_pos (k1.mpr (by omega))]
            refine ⟨by first | trivial | rfl, z + 1, by rw [nI_1], a, b, c, by omega, ⟨f1, f2, nI_1 z⟩, g, i, j, k, fun m hm => ?_⟩
            by_cases em : m = z
            · subst em
              rw [pk_us, pk_us, pk_us, pk_us, pk_us, pk_us]
              exact ⟨rfl, rfl, rfl, Or.inr rfl, c0, c1⟩
            · rw [pk_un em, pk_un em, pk_un em, pk_un em, pk_un em, pk_un em]
              exact l m (by omega)
theorem st_keep_1 {n9 d L z : Nat} {pi : Nat → Nat} {sg ik tk en mo : Nat → Int32} {gN gS0 gS1 : Nat → Nat → Int32} {gB : Nat → Nat → Nat → Int32} {Z tx pg bk kp jk sa se sm : Nat → Int32} (h : rR n9 d L z pi sg ik tk en mo gN gS0 gS1 gB Z tx pg bk kp jk sa se sm) : gN 4 0 = r_X7_keep_1 pg kp ∧ rR n9 d L z pi sg (upd ik 1 1) tk en mo gN gS0 gN gB (s_X7_keep_1_Z Z pg kp) tx pg bk (s_X7_keep_1_kp pg kp) (s_X7_keep_1_ik pg kp jk) sa se sm := by
  have hh := h
  obtain ⟨a, b, c, e, ⟨f1, f2, f3⟩, g, i, j, ⟨k0, k1, k2, k3, k4, k5, k6, k7⟩, l⟩ := h
  unfold r_X7_keep_1 s_X7_keep_1_Z s_X7_keep_1_kp s_X7_keep_1_ik
  rw [lkeep_r_1, lkeep_Z_1, lkeep_ik_1]
  refine ⟨g.2.2.2.2.1.1.symm, a, b, c, e, ⟨f1, f2, f3⟩, g, i, j, ?_, l⟩
  have same : rW gN (fun k => l_X7_keep_1_1_kp pg 55 0 kp (55 + k)) := rW_fr g (fun k hk => by rw [lkeep_kp_1, if_pos (by omega), Nat.add_sub_cancel_left])
  have oth : ∀ q, (q < 55) → l_X7_keep_1_1_kp pg 55 0 kp q = kp q := fun q hq => by rw [lkeep_kp_1, if_neg (by omega)]
  exact ⟨k0, kb1, k2, rfl, k4, g.2.2.2.2.2.1, fun q => rW_fr (k6 q) (fun k hk => oth _ (by omega)), fun _ => same⟩
theorem st_again_1 {n9 d L z : Nat} {pi : Nat → Nat} {sg ik tk en mo : Nat → Int32} {gN gS0 gS1 : Nat → Nat → Int32} {gB : Nat → Nat → Nat → Int32} {Z tx pg bk kp jk sa se sm : Nat → Int32} (h : rR n9 d L z pi sg ik tk en mo gN gS0 gS1 gB Z tx pg bk kp jk sa se sm) : r_X6_again_1 ik gS1 = r_X7_again_1 pg kp jk ∧ ∃ d1, s_X6_again_1_ac (nI d) ik = kc (nI d1) ∧ rR n9 d1 L z pi sg ik tk en mo (s_X6_again_1_gN ik gN gS1) gS0 gS1 gB (s_X7_again_1_Z Z pg kp jk) tx (s_X7_again_1_pg pg kp jk) bk kp jk sa se sm := by
  have hh := h
  obtain ⟨a, b, c, e, ⟨f1, f2, f3⟩, g, i, j, ⟨k0, k1, k2, k3, k4, k5, k6, k7⟩, l⟩ := h
  unfold r_X6_again_1 r_X7_again_1 s_X6_again_1_ac s_X6_again_1_gN s_X7_again_1_Z s_X7_again_1_pg
  rw [k3]
  by_cases q : ik 1 = 0
  · simp only [if_pos q]
    exact ⟨by first | trivial | rfl, d, rfl, rR_Z hh (fun k hk => by rcases hk with rfl | rfl | rfl <;> rfl)⟩
  · simp only [if_neg q, lagain_r_1, lagain_Z_1]
    have hs : rW gS1 (l_X7_again_1_1_pg kp 55 0 pg) := rW_fr (k7 (k1.resolve_left q)) (fun k hk => by rw [lagain_pg_1, if_pos (by omega)])
    exact ⟨hs.2.2.2.2.1.1.symm, 0, rfl, rR_act hh (by decide) hs ⟨i.1, i.2.1, i.2.2.1, fun m hm => absurd hm (by omega)⟩ rfl (fun k hk => by rcases hk with rfl | rfl <;> rfl)⟩
