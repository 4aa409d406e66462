/-! how seldom one end would hear, by what was seen -/
theorem krun_j : ∀ (n i j : Nat) (g : Nat → Nat → Int32), l_X5_run_1_g n i g = l_X5_run_1_g n j g
  | 0, _, _, _ => rfl
  | n + 1, i, j, g => by rw [l_X5_run_1_g, l_X5_run_1_g, krun_j n (i + 1) (j + 1)]
def kM (g : Nat → Nat → Int32) (en mo : Nat → Int32) (i : Nat) : Prop := (en i = 0 → g 0 5 = mo i) ∧ (¬ en i = 0 → g 1 5 = mo i)
theorem hA_iff (tk en mo : Nat → Int32) (g : Nat → Nat → Int32) (p0 : Int32) : ∀ (n j : Nat), (¬ l_X1_holdAt_1_r tk en mo g p0 n j = 0) ↔ ∀ i, j ≤ i → i < j + n → tk i = p0 → kM g en mo i
  | 0, j => ⟨fun _ i h1 h2 => absurd h2 (by omega), fun _ => by rw [l_X1_holdAt_1_r]; decide⟩
  | n + 1, j => by
    have ih := hA_iff tk en mo g p0 n (j + 1)
    have up : (∀ i, j ≤ i → i < j + (n + 1) → tk i = p0 → kM g en mo i) ↔ (tk j = p0 → kM g en mo j) ∧ ∀ i, j + 1 ≤ i → i < j + 1 + n → tk i = p0 → kM g en mo i := by
      constructor
      · intro h
        exact ⟨h j (Nat.le_refl _) (by omega), fun i h1 h2 => h i (by omega) (by omega)⟩
      · intro h i h1 h2 h3
        by_cases e : i = j
        · subst e; exact h.1 h3
        · exact h.2 i (by omega) (by omega) h3
    rw [up, ← ih, l_X1_holdAt_1_r]
    by_cases c1 : tk j = p0
    · rw [if_pos c1]
      by_cases c2 : en j = 0
      · rw [if_pos c2]
        by_cases c3 : g 0 5 = mo j
        · rw [if_pos c3]
          exact ⟨fun h => ⟨fun _ => ⟨fun _ => c3, fun q => absurd c2 q⟩, h⟩, fun h => h.2⟩
        · rw [if_neg c3]
          exact ⟨fun h => absurd rfl h, fun h => absurd ((h.1 c1).1 c2) c3⟩
      · rw [if_neg c2]
        by_cases c3 : g 1 5 = mo j
        · rw [if_pos c3]
          exact ⟨fun h => ⟨fun _ => ⟨fun q => absurd q c2, fun _ => c3⟩, h⟩, fun h => h.2⟩
        · rw [if_neg c3]
          exact ⟨fun h => absurd rfl h, fun h => absurd ((h.1 c1).2 c2) c3⟩
    · rw [if_neg c1]
      exact ⟨fun h => ⟨fun q => absurd q c1, h⟩, fun h => h.2⟩
theorem kmax_lt {x y c : Int32} : kMax x y < c ↔ x < c ∧ y < c := by
  unfold kMax
  by_cases h : x < y
  · rw [if_pos h]; exact ⟨fun q => ⟨Int32.lt_trans h q, q⟩, fun q => q.2⟩
  · rw [if_neg h]; exact ⟨fun q => ⟨q, Int32.lt_of_le_of_lt (Int32.not_lt.mp h) q⟩, fun q => q.1⟩
theorem hL_iff (tk : Nat → Int32) (c : Int32) : ∀ (n j : Nat) (la : Int32), l_X1_lastTick_1_r tk n j la < c ↔ la < c ∧ ∀ i, j ≤ i → i < j + n → tk i < c
  | 0, j, la => by
    rw [l_X1_lastTick_1_r]
    exact ⟨fun h => ⟨h, fun i h1 h2 => absurd h2 (by omega)⟩, fun h => h.1⟩
  | n + 1, j, la => by
    rw [l_X1_lastTick_1_r, hL_iff tk c n (j + 1), kmax_lt]
    constructor
    · rintro ⟨⟨a, b⟩, h⟩
      refine ⟨a, fun i h1 h2 => ?_⟩
      by_cases e : i = j
      · subst e; exact b
      · exact h i (by omega) (by omega)
    · rintro ⟨a, h⟩
      exact ⟨⟨a, h j (Nat.le_refl _) (by omega)⟩, fun i h1 h2 => h i (by omega) (by omega)⟩
theorem hI_iff (z : Nat) (tk en mo : Nat → Int32) (ti : Nat → Nat) (hti : ∀ i, i < z → tk i = nI (ti i) ∧ ti i ≤ 99) : ∀ (n k : Nat) (g : Nat → Nat → Int32), k + n = 100 → ((¬ l_X1_holdIn_1_r z tk en mo n k g = 0) ↔ ∀ i, i < z → k ≤ ti i → kM (l_X5_run_1_g (ti i - k) 0 g) en mo i)
  | 0, k, g, hk => by
    rw [l_X1_holdIn_1_r]
    refine ⟨fun _ i h1 h2 => absurd (hti i h1).2 (by omega), fun _ => ?_⟩
    split <;> decide
  | n + 1, k, g, hk => by
    rw [l_X1_holdIn_1_r]
    by_cases c1 : r_X1_lastTick z tk < nI k
    · rw [if_pos c1]
      refine ⟨fun _ i h1 h2 => ?_, fun _ => by decide⟩
      have h3 := ((hL_iff tk (nI k) z 0 (-1)).mp c1).2 i (by omega) (by omega)
      rw [(hti i h1).1] at h3
      have := (nI_ltI (by have := (hti i h1).2; omega) (by omega)).mp h3
      omega
    · rw [if_neg c1]
      have ha := hA_iff tk en mo g (nI k) z 0
      by_cases c2 : r_X1_holdAt z tk en mo g (nI k) = 0
      · rw [if_pos c2]
        refine ⟨fun h => absurd rfl h, fun h => ?_⟩
        refine absurd (ha.mpr (fun i _ h2 h3 => ?_)) (fun q => q c2)
        rw [(hti i (by omega)).1] at h3
        have e := (nI_eq (by have := (hti i (by omega)).2; omega) (by omega)).mp h3
        have := h i (by omega) (by omega)
        rw [e, Nat.sub_self] at this
        exact this
      · rw [if_neg c2, hI_iff z tk en mo ti hti n (k + 1) _ (by omega)]
        have hk0 := ha.mp c2
        constructor
        · intro h i h1 h2
          by_cases e : ti i = k
          · rw [e, Nat.sub_self]
            exact hk0 i (by omega) (by omega) (by rw [(hti i h1).1, e])
          · have := h i h1 (by omega)
            rw [show ti i - k = (ti i - (k + 1)) + 1 by omega, l_X5_run_1_g, krun_j _ (0 + 1) 0]
            exact this
        · intro h i h1 h2
          have := h i h1 (by omega)
          rw [show ti i - k = (ti i - (k + 1)) + 1 by omega, l_X5_run_1_g, krun_j _ (0 + 1) 0] at this
          exact this
theorem rW_rx {g : Nat → Nat → Int32} {w : Nat → Int32} (h : rW g w) {v : Int32} (hv : 0 ≤ v) : rW (kg (upd (upd (g 0) 1 v) 4 v) (g 1) (g 2) (g 3) (g 4)) (upd (upd w 1 v) 4 v) := by
  have hh := h
  obtain ⟨⟨h0, h1, h2, h3, h4, h5, h6, h7, h8, h9, h10, h11, h12, h13, h14, h15⟩, hE1, c, d, e, f, i, l⟩ := h
  exact rW_end0 hh ⟨h0, rfl, h2, h3, rfl, h5, h6, h7, h8, h9, h10, h11, h12, h13, h14, h15⟩ (fun k hk => by rw [pk_un (by omega), pk_un (by omega)]) ⟨f.1.1, f.1.2.1, f.1.2.2.1, f.1.2.2.2⟩ ⟨hv, hv⟩
theorem q_mayz (pg sa se sm : Nat → Int32) (r : Nat) : ∀ (n i : Nat) (Z tr : Nat → Int32), t_X7_which_2_may pg sa se sm r n i 0 Z tr = 0
  | 0, _, _, _ => by rw [t_X7_which_2_may]
  | n + 1, _, _, _ => by rw [t_X7_which_2_may, if_pos rfl]
theorem q_seen {gN : Nat → Nat → Int32} {pg : Nat → Int32} (h : rW gN pg) {r : Nat} (hr : r < 2 ^ 31) (sa se sm tk en mo : Nat → Int32) (ti : Nat → Nat) (i : Nat) (h1 : tk i = nI (ti i) ∧ ti i ≤ 99) (hs : sa i = tk i ∧ se i = en i ∧ sm i = mo i) (Z tr : Nat → Int32) : kb (r_X7_isSeen Z i pg tr sa se sm (nI r)) ∧ ((¬ r_X7_isSeen Z i pg tr sa se sm (nI r) = 0) ↔ kM (l_X5_run_1_g (ti i) 0 (kg (upd (upd (gN 0) 1 (nI r)) 4 (nI r)) (gN 1) (gN 2) (gN 3) (gN 4))) en mo i) := by
  have hw := (rW_run (rW_rx (rW_lay (t := tr) h) (nI_pos' hr)) (nZ_lay Z) (sa i)).1
  unfold r_X7_isSeen
  have e : s_X5_run_g (kg (upd (upd (gN 0) 1 (nI r)) 4 (nI r)) (gN 1) (gN 2) (gN 3) (gN 4)) (sa i) = l_X5_run_1_g (ti i) 0 (kg (upd (upd (gN 0) 1 (nI r)) 4 (nI r)) (gN 1) (gN 2) (gN 3) (gN 4)) := by
    unfold s_X5_run_g
    rw [hs.1, h1.1, nI_clamp (by omega)]
  rw [e] at hw
  generalize l_X5_run_1_g (ti i) 0 (kg (upd (upd (gN 0) 1 (nI r)) 4 (nI r)) (gN 1) (gN 2) (gN 3) (gN 4)) = g at hw ⊢
  generalize s_X7_goFor_f (upd (upd (upd Z 18 (-9)) 20 0) 21 6) (upd (upd (s_X7_lay_t pg tr) 1 (nI r)) 4 (nI r)) (sa i) = w at hw ⊢
  have e5 : w 5 = g 0 5 := hw.1.2.2.2.2.2.1
  have e21 : w 21 = g 1 5 := hw.2.1.2.2.2.2.2.1
  rw [hs.2.1, hs.2.2, e5, e21]
  unfold kM
  by_cases c : en i = 0
  · rw [if_pos c]
    by_cases c2 : g 0 5 = mo i
    · rw [if_pos c2]; exact ⟨kb1, fun _ => ⟨fun _ => c2, fun q => absurd c q⟩, fun _ => by decide⟩
    · rw [if_neg c2]; exact ⟨kb0, fun q => absurd rfl q, fun q => absurd (q.1 c) c2⟩
  · rw [if_neg c]
    by_cases c2 : g 1 5 = mo i
    · rw [if_pos c2]; exact ⟨kb1, fun _ => ⟨fun q => absurd q c, fun _ => c2⟩, fun _ => by decide⟩
    · rw [if_neg c2]; exact ⟨kb0, fun q => absurd rfl q, fun q => absurd (q.2 c) c2⟩
theorem q_may {gN : Nat → Nat → Int32} {pg : Nat → Int32} (h : rW gN pg) {r : Nat} (hr : r < 2 ^ 31) (sa se sm tk en mo : Nat → Int32) (ti : Nat → Nat) (z : Nat) (hti : ∀ i, i < z → tk i = nI (ti i) ∧ ti i ≤ 99) (hs : ∀ i, i < z → sa i = tk i ∧ se i = en i ∧ sm i = mo i) : ∀ (n i : Nat) (Z tr : Nat → Int32), i + n = z → ((¬ t_X7_which_2_may pg sa se sm r n i 1 Z tr = 0) ↔ ∀ k, i ≤ k → k < z → kM (l_X5_run_1_g (ti k) 0 (kg (upd (upd (gN 0) 1 (nI r)) 4 (nI r)) (gN 1) (gN 2) (gN 3) (gN 4))) en mo k)
  | 0, i, Z, tr, hi => by
    rw [t_X7_which_2_may]
    exact ⟨fun _ k h1 h2 => absurd h2 (by omega), fun _ => by decide⟩
  | n + 1, i, Z, tr, hi => by
    rw [t_X7_which_2_may, if_neg (by decide)]
    obtain ⟨hb, hq⟩ := q_seen h hr sa se sm tk en mo ti i (hti i (by omega)) (hs i (by omega)) Z tr
    have up : ∀ P : Nat → Prop, (∀ k, i ≤ k → k < z → P k) ↔ P i ∧ ∀ k, i + 1 ≤ k → k < z → P k := fun P => by
      constructor
      · intro hh
        exact ⟨hh i (Nat.le_refl _) (by omega), fun k h1 h2 => hh k (by omega) h2⟩
      · intro hh k h1 h2
        by_cases e : k = i
        · subst e; exact hh.1
        · exact hh.2 k (by omega) h2
    rw [up]
    rcases hb with e | e
    · rw [e, q_mayz]
      refine ⟨fun q => absurd rfl q, fun q => ?_⟩
      exact absurd e (hq.mpr q.1)
    · have ih := q_may h hr sa se sm tk en mo ti z hti hs n (i + 1) (s_X7_isSeen_Z Z i pg tr sa se sm (nI r)) (s_X7_isSeen_tr Z i pg tr sa se sm (nI r)) (by omega)
      rw [e, ih]
      exact ⟨fun q => ⟨hq.mp (by rw [e]; decide), q⟩, fun q => q.2⟩
theorem q_wh {gN : Nat → Nat → Int32} {pg : Nat → Int32} (h : rW gN pg) (sa se sm tk en mo : Nat → Int32) (ti : Nat → Nat) (z : Nat) (hti : ∀ i, i < z → tk i = nI (ti i) ∧ ti i ≤ 99) (hs : ∀ i, i < z → sa i = tk i ∧ se i = en i ∧ sm i = mo i) : ∀ (n j : Nat) (ft : Int32) (gT : Nat → Nat → Int32) (Z tr : Nat → Int32), j + n < 100 → l_X6_which_1_r gN z tk en mo n j ft gT = l_X7_which_1_r z pg sa se sm n j ft Z tr
  | 0, _, _, _, _, _, _ => by rw [l_X6_which_1_r, l_X7_which_1_r]
  | n + 1, j, ft, gT, Z, tr, hj => by
    rw [l_X6_which_1_r, l_X7_which_1_r]
    have a := hI_iff z tk en mo ti hti 100 0 (kg (upd (upd (gN 0) 1 (nI j)) 4 (nI j)) (gN 1) (gN 2) (gN 3) (gN 4)) rfl
    have b := q_may h (r := j) (by omega) sa se sm tk en mo ti z hti hs z 0 Z tr (by omega)
    have ab : (¬ r_X1_holdIn z tk en mo (kg (upd (upd (gN 0) 1 (nI j)) 4 (nI j)) (gN 1) (gN 2) (gN 3) (gN 4)) = 0) ↔ (¬ t_X7_which_2_may pg sa se sm j z 0 1 Z tr = 0) := by
      unfold r_X1_holdIn
      rw [a, b]
      constructor
      · intro q k _ h2
        have := q k h2 (by omega)
        rw [Nat.sub_zero] at this
        exact this
      · intro q i h1 _
        rw [Nat.sub_zero]
        exact q i (by omega) h1
    by_cases c : r_X1_holdIn z tk en mo (kg (upd (upd (gN 0) 1 (nI j)) 4 (nI j)) (gN 1) (gN 2) (gN 3) (gN 4)) = 0
    · have c2 : t_X7_which_2_may pg sa se sm j z 0 1 Z tr = 0 := Decidable.byContradiction (fun q => (ab.mpr q) c)
      rw [if_pos c, if_pos c2, Int32.or_zero]
      exact q_wh h sa se sm tk en mo ti z hti hs n (j + 1) _ _ _ _ (by omega)
    · rw [if_neg c, if_neg (ab.mp c)]
      exact q_wh h sa se sm tk en mo ti z hti hs n (j + 1) _ _ _ _ (by omega)
theorem q_which {gN gT : Nat → Nat → Int32} {pg : Nat → Int32} (h : rW gN pg) (sa se sm tk en mo Z tr : Nat → Int32) (z : Nat) (hs : ∀ i, i < z → sa i = tk i ∧ se i = en i ∧ sm i = mo i ∧ (en i = 0 ∨ en i = 1) ∧ ¬ tk i < 0 ∧ ¬ 99 < tk i) : r_X6_which gN gT z tk en mo = r_X7_which Z z pg tr sa se sm := by
  unfold r_X6_which r_X7_which
  refine q_wh h sa se sm tk en mo (fun i => (tk i).toNatClampNeg) z (fun i hi => ?_) (fun i hi => ⟨(hs i hi).1, (hs i hi).2.1, (hs i hi).2.2.1⟩) 9 1 0 _ _ _ (by decide)
  obtain ⟨v, hv, e⟩ := knum (x := tk i) (N := 99) (by decide) (hs i hi).2.2.2.2.1 (hs i hi).2.2.2.2.2
  show tk i = nI (tk i).toNatClampNeg ∧ (tk i).toNatClampNeg ≤ 99
  rw [e, nI_clamp (by omega)]
  exact ⟨rfl, hv⟩
