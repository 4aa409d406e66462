/-! rows laid, and runs -/
theorem llay (f : Nat → Int32) (k : Nat) : ∀ (n j : Nat) (t : Nat → Int32), l_X7_lay_1_t f n j t k = if j ≤ k ∧ k < j + n then f k else t k
  | 0, j, t => by rw [l_X7_lay_1_t, if_neg (by omega)]
  | n + 1, j, t => by
    rw [l_X7_lay_1_t, llay f k n (j + 1) _]
    by_cases h : k = j
    · subst h
      rw [if_neg (by omega), if_pos (by omega), pk_us]
    · rw [pk_un h]
      by_cases h2 : j + 1 ≤ k ∧ k < j + 1 + n
      · rw [if_pos h2, if_pos (by omega)]
      · rw [if_neg h2, if_neg (by omega)]
theorem slay {f t : Nat → Int32} {k : Nat} (h : k < 55) : s_X7_lay_t f t k = f k := by
  unfold s_X7_lay_t
  rw [llay, if_pos (by omega)]
/-- a world of the class and a row of the reference that say the same; nothing is to be lost -/
def rW (g : Nat → Nat → Int32) (w : Nat → Int32) : Prop := rE0 (g 0) w ∧ rE16 (g 1) w ∧ rY2 (g 2) w ∧ rY3 (g 3) w ∧ (w 52 = g 4 0 ∧ w 53 = g 4 1 ∧ w 54 = g 4 2) ∧ bW g ∧ (pE (g 0) ∧ pE (g 1)) ∧ (g 3 10 = 0 ∧ g 2 10 = 0 ∧ g 4 3 = 0)
def nZ (Z : Nat → Int32) : Prop := Z 18 = -9 ∧ Z 20 = 0 ∧ Z 21 = 6
theorem rW_T {g : Nat → Nat → Int32} {Z w : Nat → Int32} (h : rW g w) (hz : nZ Z) : rT g Z w := by
  obtain ⟨a, b, c, d, e, f, i, ⟨l3, l2, l4⟩⟩ := h
  obtain ⟨z1, z2, z3⟩ := hz
  exact ⟨a, b, c, d, e, f, i, ⟨fun q => absurd (z1.symm.trans q) (by decide), fun _ => l3⟩, ⟨fun q => absurd (z1.symm.trans q) (by decide), fun _ => l2⟩, ⟨0, 0, by decide, z2, Or.inl ⟨by rw [z3]; decide, l4⟩⟩⟩
theorem rT_W {g : Nat → Nat → Int32} {Z w : Nat → Int32} (h : rT g Z w) (hz : nZ Z) : rW g w := by
  obtain ⟨a, b, c, d, e, f, i, l3, l2, ⟨n, k, _, _, s⟩⟩ := h
  obtain ⟨z1, z2, z3⟩ := hz
  refine ⟨a, b, c, d, e, f, i, ⟨l3.2 (by rw [z1]; decide), l2.2 (by rw [z1]; decide), ?_⟩⟩
  rcases s with s | ⟨hk, h21, _⟩
  · exact s.2
  · rw [z3] at h21
    have := (nI_eq (a := 6) (b := k) (by decide) (by omega)).mp h21
    omega
theorem ztick (Z f : Nat → Int32) (k : Nat) (h19 : k ≠ 19) (h21 : k ≠ 21) : s_X7_tick_Z Z f k = Z k := by
  rw [mtick_Z, zsend_1 _ _ _ h21, zsend_0 _ _ _ h21, ztake_1 _ _ _ h19, ztake_0 _ _ _ h19]
theorem z21_0 {Z : Nat → Int32} (w : Nat → Int32) (h : Z 21 = 6) : (t_X7_tick_2_Z Z w) 21 = 6 := by
  have h6 : (6 : Int32) ≤ Z 21 := by rw [h]; decide
  unfold t_X7_tick_2_Z s_X7_sendOn_0_Z
  rw [if_pos h6]
  repeat' split
  all_goals first | exact h | rfl
theorem z21_1 {Z : Nat → Int32} (w : Nat → Int32) (h : Z 21 = 6) : (mSend1_Z Z w) 21 = 6 := by
  have h6 : (6 : Int32) ≤ Z 21 := by rw [h]; decide
  unfold mSend1_Z s_X7_sendOn_1_Z
  rw [if_pos h6]
  repeat' split
  all_goals first | exact h | rfl
theorem nZ_tick {Z : Nat → Int32} (f : Nat → Int32) (h : nZ Z) : nZ (s_X7_tick_Z Z f) := by
  obtain ⟨z1, z2, z3⟩ := h
  refine ⟨(ztick Z f 18 (by decide) (by decide)).trans z1, (ztick Z f 20 (by decide) (by decide)).trans z2, ?_⟩
  rw [mtick_Z]
  exact z21_1 _ (z21_0 _ (by rw [ztake_1 _ _ _ (by decide), ztake_0 _ _ _ (by decide)]; exact z3))
theorem rW_tick {g : Nat → Nat → Int32} {Z w : Nat → Int32} (h : rW g w) (hz : nZ Z) : rW (s_X5_tick_g g) (s_X7_tick_f Z w) ∧ nZ (s_X7_tick_Z Z w) := ⟨rT_W (rtick (rW_T h hz)) (nZ_tick w hz), nZ_tick w hz⟩
theorem rW_fr {g : Nat → Nat → Int32} {w w1 : Nat → Int32} (h : rW g w) (hf : ∀ k, k < 55 → w1 k = w k) : rW g w1 := by
  obtain ⟨a, b, c, d, ⟨e1, e2, e3⟩, r⟩ := h
  exact ⟨rE0_fr a (fun k _ q => hf k (by omega)), rE16_fr b (fun k _ q => hf k (by omega)), rY2_fr c (fun k q => hf k (by omega)), rY3_fr d (fun k q => hf k (by omega)), ⟨(hf 52 (by decide)).trans e1, (hf 53 (by decide)).trans e2, (hf 54 (by decide)).trans e3⟩, r⟩
theorem rW_lay {g : Nat → Nat → Int32} {w t : Nat → Int32} (h : rW g w) : rW g (s_X7_lay_t w t) := rW_fr h (fun k hk => slay hk)
theorem rT_fr {g : Nat → Nat → Int32} {Z w w1 : Nat → Int32} (h : rT g Z w) (hf : ∀ k, k < 55 → w1 k = w k) : rT g Z w1 := by
  obtain ⟨a, b, c, d, ⟨e1, e2, e3⟩, r⟩ := h
  exact ⟨rE0_fr a (fun k _ q => hf k (by omega)), rE16_fr b (fun k _ q => hf k (by omega)), rY2_fr c (fun k q => hf k (by omega)), rY3_fr d (fun k q => hf k (by omega)), ⟨(hf 52 (by decide)).trans e1, (hf 53 (by decide)).trans e2, (hf 54 (by decide)).trans e3⟩, r⟩
theorem rW_go : ∀ (n j i : Nat) {g : Nat → Nat → Int32} {Z w : Nat → Int32}, rW g w → nZ Z → rW (l_X5_run_1_g n j g) (l_X7_goFor_1_f n i Z w) ∧ nZ (l_X7_goFor_1_Z n i Z w)
  | 0, _, _, _, _, _, h, hz => ⟨h, hz⟩
  | n + 1, j, i, g, Z, w, h, hz => by
    rw [l_X5_run_1_g, l_X7_goFor_1_f, l_X7_goFor_1_Z]
    obtain ⟨h1, h2⟩ := rW_tick h hz
    exact rW_go n (j + 1) (i + 1) h1 h2
theorem rT_go : ∀ (n j i : Nat) {g : Nat → Nat → Int32} {Z w : Nat → Int32}, rT g Z w → rT (l_X5_run_1_g n j g) (l_X7_goFor_1_Z n i Z w) (l_X7_goFor_1_f n i Z w)
  | 0, _, _, _, _, _, h => h
  | n + 1, j, i, g, Z, w, h => by
    rw [l_X5_run_1_g, l_X7_goFor_1_f, l_X7_goFor_1_Z]
    exact rT_go n (j + 1) (i + 1) (rtick h)
theorem rW_run {g : Nat → Nat → Int32} {Z w : Nat → Int32} (h : rW g w) (hz : nZ Z) (p0 : Int32) : rW (s_X5_run_g g p0) (s_X7_goFor_f Z w p0) ∧ nZ (s_X7_goFor_Z Z w p0) := rW_go _ _ _ h hz
theorem rT_run {g : Nat → Nat → Int32} {Z w : Nat → Int32} (h : rT g Z w) (p0 : Int32) : rT (s_X5_run_g g p0) (s_X7_goFor_Z Z w p0) (s_X7_goFor_f Z w p0) := rT_go _ _ _ h
theorem zgo (k : Nat) (h19 : k ≠ 19) (h21 : k ≠ 21) : ∀ (n j : Nat) (Z f : Nat → Int32), l_X7_goFor_1_Z n j Z f k = Z k
  | 0, _, _, _ => rfl
  | n + 1, j, Z, f => by rw [l_X7_goFor_1_Z, zgo k h19 h21 n (j + 1) _ _, ztick _ _ _ h19 h21]
theorem zgoFor (Z f : Nat → Int32) (p0 : Int32) (k : Nat) (h19 : k ≠ 19) (h21 : k ≠ 21) : s_X7_goFor_Z Z f p0 k = Z k := zgo k h19 h21 _ _ _ _
/-! how many letters a tick sends -/
theorem ssend_0 (Z w : Nat → Int32) : t_X7_tick_2_f Z w 53 = w 53 ∨ t_X7_tick_2_f Z w 53 = w 53 + 1 := by
  unfold t_X7_tick_2_f s_X7_sendOn_0_f
  repeat' split
  all_goals first | exact Or.inr rfl | exact Or.inl rfl
theorem ssend_1 (Z w : Nat → Int32) : mSend1_f Z w 53 = w 53 ∨ mSend1_f Z w 53 = w 53 + 1 := by
  unfold mSend1_f s_X7_sendOn_1_f
  repeat' split
  all_goals first | exact Or.inr rfl | exact Or.inl rfl
theorem stick (Z f : Nat → Int32) : ∃ c : Nat, c ≤ 2 ∧ s_X7_tick_f Z f 53 = f 53 + nI c := by
  rw [mtick_f, mup_fr _ 53 (by decide)]
  generalize hW : s_X7_take_1_f (s_X7_take_0_Z Z (upd f 52 ((f 52) + 1))) (s_X7_take_0_f Z (upd f 52 ((f 52) + 1))) = W
  have e : mFall16 (t_X7_tick_1_f W) 53 = f 53 := by
    rw [ffall_16 _ _ (Or.inr (by decide)), ffall_0 _ _ (by decide), ← hW, ftake_1 _ _ _ (Or.inr (by decide)) (by decide), ftake_0 _ _ _ (by decide) (by decide)]
    rfl
  generalize mFall16 (t_X7_tick_1_f W) = V at e
  generalize s_X7_take_1_Z (s_X7_take_0_Z Z (upd f 52 ((f 52) + 1))) (s_X7_take_0_f Z (upd f 52 ((f 52) + 1))) = Z2
  generalize t_X7_tick_2_Z Z2 V = Z3
  rcases ssend_0 Z2 V with a | a <;> rcases ssend_1 Z3 (t_X7_tick_2_f Z2 V) with b | b
  · exact ⟨0, by decide, by rw [b, a, e]; exact (Int32.add_zero _).symm⟩
  · exact ⟨1, by decide, by rw [b, a, e]; rfl⟩
  · exact ⟨1, by decide, by rw [b, a, e]; rfl⟩
  · exact ⟨2, by decide, by rw [b, a, e, Int32.add_assoc]; rfl⟩
theorem sgo : ∀ (n j : Nat) (Z f : Nat → Int32), ∃ c : Nat, c ≤ 2 * n ∧ l_X7_goFor_1_f n j Z f 53 = f 53 + nI c
  | 0, _, _, f => ⟨0, by omega, (Int32.add_zero _).symm⟩
  | n + 1, j, Z, f => by
    obtain ⟨c, hc, e⟩ := stick Z f
    obtain ⟨c2, hc2, e2⟩ := sgo n (j + 1) (s_X7_tick_Z Z f) (s_X7_tick_f Z f)
    exact ⟨c + c2, by omega, by rw [l_X7_goFor_1_f, e2, e, Int32.add_assoc, nI_add]⟩
theorem sgoFor (Z f : Nat → Int32) : ∃ c : Nat, c ≤ 120 ∧ s_X7_goFor_f Z f 60 53 = f 53 + nI c := sgo 60 0 Z f
theorem ssentBy (Z pg tr : Nat → Int32) (p0 : Int32) : ∃ c : Nat, c ≤ 120 ∧ r_X7_sentBy Z pg tr p0 = pg 53 + nI c := by
  have e1 : t_X7_sentBy_1_tr pg tr p0 53 = pg 53 := by
    unfold t_X7_sentBy_1_tr
    split
    all_goals exact (show s_X7_lay_t pg tr 53 = pg 53 from slay (by decide))
  have e2 : ∀ F, t_X7_sentBy_2_tr p0 F 53 = F 53 := fun F => by unfold t_X7_sentBy_2_tr; split <;> rfl
  have e3 : ∀ F, t_X7_sentBy_3_tr p0 F 53 = F 53 := fun F => by unfold t_X7_sentBy_3_tr; split <;> rfl
  unfold r_X7_sentBy
  repeat' split
  all_goals
    refine (sgoFor _ _).imp (fun c h => ⟨h.1, h.2.trans ?_⟩)
    first | exact congrArg (· + nI c) ((e2 _).trans e1) | exact congrArg (· + nI c) ((e3 _).trans e1)
/-! bounds -/
def kBd (n : Nat) (x : Int32) : Prop := -(n : Int) ≤ x.toInt ∧ x.toInt ≤ n
theorem kBd_0 : kBd 0 0 := by unfold kBd; simp
theorem kBd_le {a b : Nat} {x : Int32} (h : kBd a x) (hab : a ≤ b) : kBd b x := by unfold kBd at *; omega
theorem kBd_add {a b : Nat} {x y : Int32} (hx : kBd a x) (hy : kBd b y) (h : a + b < 2 ^ 31) : kBd (a + b) (x + y) := by
  unfold kBd at *
  rw [Int32.toInt_add, Int.bmod_eq_of_le (by first | omega | (push_cast; omega) | (simp; omega)) (by first | omega | (push_cast; omega) | (simp; omega))]
  omega
theorem kBd_mul {a b : Nat} {x y : Int32} (hx : kBd a x) (hy : kBd b y) (h : a * b < 2 ^ 31) : kBd (a * b) (x * y) := by
  unfold kBd at *
  have h1 : (x.toInt * y.toInt).natAbs ≤ a * b := by
    rw [Int.natAbs_mul]
    exact Nat.mul_le_mul (by omega) (by omega)
  rw [Int32.toInt_mul, Int.bmod_eq_of_le (by first | omega | (push_cast; omega) | (simp; omega)) (by first | omega | (push_cast; omega) | (simp; omega))]
  omega
theorem kBd_nI {n : Nat} (h : n < 2 ^ 31) : kBd n (nI n) := by
  unfold kBd
  rw [nI_toInt h]
  omega
theorem kBd_diff {x : Int32} {a b n : Nat} (ha : a ≤ n) (hb : b ≤ n) (hn : n < 2 ^ 30) : kBd n ((x + nI a) - (x + nI b)) := by
  have e : (x + nI a) - (x + nI b) = nI a - nI b := by
    rw [Int32.sub_eq_add_neg, Int32.neg_add, Int32.sub_eq_add_neg]
    rw [Int32.add_comm x (nI a), Int32.add_assoc, ← Int32.add_assoc x, Int32.add_right_neg, Int32.zero_add, Int32.sub_eq_add_neg]
  rw [e]
  unfold kBd
  rw [pk_sub_toInt (by omega) (by omega)]
  omega
theorem kabs1 {x : Int32} (h : 0 ≤ x) : x = nI x.toInt.natAbs := by
  obtain ⟨j, hj, rfl⟩ := nI_of (x := x) (fun q => Int32.lt_irrefl (Int32.lt_of_lt_of_le q h))
  rw [nI_toInt hj]
  rfl
theorem kabs2 {x : Int32} (h : ¬ 0 ≤ x) (hb : -(2 ^ 31 : Int) < x.toInt) : -x = nI x.toInt.natAbs := by
  have h0 : x.toInt < 0 := by
    have : ¬ (0 : Int32).toInt ≤ x.toInt := fun q => h (Int32.le_iff_toInt_le.mpr q)
    simp at this
    exact this
  apply Int32.toInt_inj.mp
  rw [nI_toInt (by omega), Int32.toInt_neg, Int.bmod_eq_of_le (by first | omega | (push_cast; omega) | (simp; omega)) (by first | omega | (push_cast; omega) | (simp; omega))]
  omega
