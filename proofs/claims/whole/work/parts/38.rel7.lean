theorem rW_end0 {g : Nat → Nat → Int32} {w w1 X : Nat → Int32} (h : rW g w) (hE : rE0 X w1) (hf : ∀ k, 16 ≤ k → w1 k = w k) (hb : bE X) (hp : pE X) : rW (kg X (g 1) (g 2) (g 3) (g 4)) w1 := by
  obtain ⟨a, b, c, d, ⟨e1, e2, e3⟩, f, i, l⟩ := h
  exact ⟨hE, rE16_fr b (fun k q _ => hf k q), rY2_fr c (fun k q => hf k (by omega)), rY3_fr d (fun k q => hf k (by omega)), ⟨(hf 52 (by decide)).trans e1, (hf 53 (by decide)).trans e2, (hf 54 (by decide)).trans e3⟩, ⟨hb, f.2⟩, ⟨hp, i.2⟩, l⟩
theorem rW_end1 {g : Nat → Nat → Int32} {w w1 X : Nat → Int32} (h : rW g w) (hE : rE16 X w1) (hf : ∀ k, k < 16 ∨ 32 ≤ k → w1 k = w k) (hb : bE X) (hp : pE X) : rW (kg (g 0) X (g 2) (g 3) (g 4)) w1 := by
  obtain ⟨a, b, c, d, ⟨e1, e2, e3⟩, f, i, l⟩ := h
  exact ⟨rE0_fr a (fun k _ q => hf k (Or.inl q)), hE, rY2_fr c (fun k q => hf k (Or.inr (by omega))), rY3_fr d (fun k q => hf k (Or.inr (by omega))), ⟨(hf 52 (Or.inr (by decide))).trans e1, (hf 53 (Or.inr (by decide))).trans e2, (hf 54 (Or.inr (by decide))).trans e3⟩, ⟨f.1, hb, f.2.2⟩, ⟨i.1, hp⟩, l⟩
theorem rW_dem0 {g : Nat → Nat → Int32} {w : Nat → Int32} (h : rW g w) : rW (kg (s_X0_turnDemand_X (g 0)) (g 1) (g 2) (g 3) (g 4)) (upd w 7 (w 7 ^^^ 1)) := by
  have hh := h
  obtain ⟨hE0, hE1, c, d, e, f, i, l⟩ := h
  have hk : kb (g 0 7) := f.1.2.1
  obtain ⟨h0, h1, h2, h3, h4, h5, h6, h7, h8, h9, h10, h11, h12, h13, h14, h15⟩ := hE0
  refine rW_end0 hh ?_ (fun k hk => pk_un (by omega)) (b_s_X0_turnDemand_X _ f.1) ?_
  · rw [h7, kx1 hk]
    unfold s_X0_turnDemand_X
    by_cases q : g 0 7 = 0
    · rw [if_pos q, if_pos q]; exact ⟨h0, h1, h2, h3, h4, h5, h6, rfl, h8, h9, h10, h11, h12, h13, h14, h15⟩
    · rw [if_neg q, if_neg q]; exact ⟨h0, h1, h2, h3, h4, h5, h6, rfl, h8, h9, h10, h11, h12, h13, h14, h15⟩
  · unfold s_X0_turnDemand_X
    split <;> exact ⟨i.1.1, i.1.2⟩
theorem rW_poll0 {g : Nat → Nat → Int32} {w : Nat → Int32} (h : rW g w) : rW (kg (upd (upd (upd (g 0) 6 1) 8 0) 9 0) (g 1) (g 2) (g 3) (g 4)) (upd (upd (upd w 6 1) 8 0) 9 0) := by
  have hh := h
  obtain ⟨hE0, hE1, c, d, e, f, i, l⟩ := h
  obtain ⟨h0, h1, h2, h3, h4, h5, h6, h7, h8, h9, h10, h11, h12, h13, h14, h15⟩ := hE0
  refine rW_end0 hh ⟨h0, h1, h2, h3, h4, h5, rfl, h7, rfl, rfl, h10, h11, h12, h13, h14, h15⟩ (fun k hk => by rw [pk_un (by omega), pk_un (by omega), pk_un (by omega)]) ⟨kb1, f.1.2.1, f.1.2.2.1, f.1.2.2.2⟩ ⟨i.1.1, i.1.2⟩
theorem rmay_0 {X w : Nat → Int32} (hE : rE0 X w) : r_X7_mayPoll_0 w = r_X0_canBePolled X := by
  obtain ⟨h0, h1, h2, h3, h4, h5, h6, h7, h8, h9, h10, h11, h12, h13, h14, h15⟩ := hE
  unfold r_X7_mayPoll_0 r_X0_canBePolled
  rw [h5, h6]
theorem rset_tx_0 {X w : Nat → Int32} (hE : rE0 X w) (v : Int32) : rE0 (s_X0_takeSetting_X X 0 v) (s_X7_setTx_0_f w v) := by
  obtain ⟨h0, h1, h2, h3, h4, h5, h6, h7, h8, h9, h10, h11, h12, h13, h14, h15⟩ := hE
  unfold s_X0_takeSetting_X s_X7_setTx_0_f
  rw [if_pos rfl]
  by_cases q : X 5 = 2
  · rw [if_pos q, if_neg (by decide), if_pos (h5.trans q), h3, kmin_eq]; exact ⟨rfl, h1, h2, rfl, h4, h5, rfl, h7, h8, h9, h10, h11, h12, h13, h14, h15⟩
  · rw [if_neg q, if_neg (by decide), if_neg (fun z => q (h5.symm.trans z))]; exact ⟨rfl, h1, h2, rfl, h4, h5, h6, h7, h8, h9, h10, h11, h12, h13, h14, h15⟩
theorem rset_rx_0 {X w : Nat → Int32} (hE : rE0 X w) (v : Int32) : rE0 (s_X0_takeSetting_X X 1 v) (s_X7_setRx_0_f w v) := by
  obtain ⟨h0, h1, h2, h3, h4, h5, h6, h7, h8, h9, h10, h11, h12, h13, h14, h15⟩ := hE
  unfold s_X0_takeSetting_X s_X7_setRx_0_f
  rw [if_neg (by decide), if_pos rfl]
  by_cases q : X 5 = 2
  · rw [if_pos q, if_neg (by decide), if_pos (h5.trans q), h4, kmax_eq]; exact ⟨h0, rfl, h2, h3, rfl, h5, rfl, h7, h8, h9, h10, h11, h12, h13, h14, h15⟩
  · rw [if_neg q, if_neg (by decide), if_neg (fun z => q (h5.symm.trans z))]; exact ⟨h0, rfl, h2, h3, rfl, h5, h6, h7, h8, h9, h10, h11, h12, h13, h14, h15⟩
theorem rset_mu_0 {X w : Nat → Int32} (hE : rE0 X w) (v : Int32) : rE0 (s_X0_takeSetting_X X 2 v) (upd w 2 v) := by
  obtain ⟨h0, h1, h2, h3, h4, h5, h6, h7, h8, h9, h10, h11, h12, h13, h14, h15⟩ := hE
  unfold s_X0_takeSetting_X
  rw [if_neg (by decide), if_neg (by decide), if_pos rfl]; exact ⟨h0, h1, rfl, h3, h4, h5, h6, h7, h8, h9, h10, h11, h12, h13, h14, h15⟩
theorem fset_tx_0 (w : Nat → Int32) (v : Int32) (k : Nat) (hk : 16 ≤ k) : s_X7_setTx_0_f w v k = w k := by
  unfold s_X7_setTx_0_f
  split <;> rw [pk_un (by omega), pk_un (by omega), pk_un (by omega)]
theorem fset_rx_0 (w : Nat → Int32) (v : Int32) (k : Nat) (hk : 16 ≤ k) : s_X7_setRx_0_f w v k = w k := by
  unfold s_X7_setRx_0_f
  split <;> rw [pk_un (by omega), pk_un (by omega), pk_un (by omega)]
theorem rW_dem1 {g : Nat → Nat → Int32} {w : Nat → Int32} (h : rW g w) : rW (kg (g 0) (s_X0_turnDemand_X (g 1)) (g 2) (g 3) (g 4)) (upd w 23 (w 23 ^^^ 1)) := by
  have hh := h
  obtain ⟨hE0, hE1, c, d, e, f, i, l⟩ := h
  have hk : kb (g 1 7) := f.2.1.2.1
  obtain ⟨h0, h1, h2, h3, h4, h5, h6, h7, h8, h9, h10, h11, h12, h13, h14, h15⟩ := hE1
  refine rW_end1 hh ?_ (fun k hk => pk_un (by omega)) (b_s_X0_turnDemand_X _ f.2.1) ?_
  · rw [h7, kx1 hk]
    unfold s_X0_turnDemand_X
    by_cases q : g 1 7 = 0
    · rw [if_pos q, if_pos q]; exact ⟨h0, h1, h2, h3, h4, h5, h6, rfl, h8, h9, h10, h11, h12, h13, h14, h15⟩
    · rw [if_neg q, if_neg q]; exact ⟨h0, h1, h2, h3, h4, h5, h6, rfl, h8, h9, h10, h11, h12, h13, h14, h15⟩
  · unfold s_X0_turnDemand_X
    split <;> exact ⟨i.2.1, i.2.2⟩
theorem rW_poll1 {g : Nat → Nat → Int32} {w : Nat → Int32} (h : rW g w) : rW (kg (g 0) (upd (upd (upd (g 1) 6 1) 8 0) 9 0) (g 2) (g 3) (g 4)) (upd (upd (upd w 22 1) 24 0) 25 0) := by
  have hh := h
  obtain ⟨hE0, hE1, c, d, e, f, i, l⟩ := h
  obtain ⟨h0, h1, h2, h3, h4, h5, h6, h7, h8, h9, h10, h11, h12, h13, h14, h15⟩ := hE1
  refine rW_end1 hh ⟨h0, h1, h2, h3, h4, h5, rfl, h7, rfl, rfl, h10, h11, h12, h13, h14, h15⟩ (fun k hk => by rw [pk_un (by omega), pk_un (by omega), pk_un (by omega)]) ⟨kb1, f.2.1.2.1, f.2.1.2.2.1, f.2.1.2.2.2⟩ ⟨i.2.1, i.2.2⟩
theorem rmay_16 {X w : Nat → Int32} (hE : rE16 X w) : r_X7_mayPoll_16 w = r_X0_canBePolled X := by
  obtain ⟨h0, h1, h2, h3, h4, h5, h6, h7, h8, h9, h10, h11, h12, h13, h14, h15⟩ := hE
  unfold r_X7_mayPoll_16 r_X0_canBePolled
  rw [h5, h6]
theorem rset_tx_16 {X w : Nat → Int32} (hE : rE16 X w) (v : Int32) : rE16 (s_X0_takeSetting_X X 0 v) (s_X7_setTx_16_f w v) := by
  obtain ⟨h0, h1, h2, h3, h4, h5, h6, h7, h8, h9, h10, h11, h12, h13, h14, h15⟩ := hE
  unfold s_X0_takeSetting_X s_X7_setTx_16_f
  rw [if_pos rfl]
  by_cases q : X 5 = 2
  · rw [if_pos q, if_neg (by decide), if_pos (h5.trans q), h3, kmin_eq]; exact ⟨rfl, h1, h2, rfl, h4, h5, rfl, h7, h8, h9, h10, h11, h12, h13, h14, h15⟩
  · rw [if_neg q, if_neg (by decide), if_neg (fun z => q (h5.symm.trans z))]; exact ⟨rfl, h1, h2, rfl, h4, h5, h6, h7, h8, h9, h10, h11, h12, h13, h14, h15⟩
theorem rset_rx_16 {X w : Nat → Int32} (hE : rE16 X w) (v : Int32) : rE16 (s_X0_takeSetting_X X 1 v) (s_X7_setRx_16_f w v) := by
  obtain ⟨h0, h1, h2, h3, h4, h5, h6, h7, h8, h9, h10, h11, h12, h13, h14, h15⟩ := hE
  unfold s_X0_takeSetting_X s_X7_setRx_16_f
  rw [if_neg (by decide), if_pos rfl]
  by_cases q : X 5 = 2
  · rw [if_pos q, if_neg (by decide), if_pos (h5.trans q), h4, kmax_eq]; exact ⟨h0, rfl, h2, h3, rfl, h5, rfl, h7, h8, h9, h10, h11, h12, h13, h14, h15⟩
  · rw [if_neg q, if_neg (by decide), if_neg (fun z => q (h5.symm.trans z))]; exact ⟨h0, rfl, h2, h3, rfl, h5, h6, h7, h8, h9, h10, h11, h12, h13, h14, h15⟩
theorem rset_mu_16 {X w : Nat → Int32} (hE : rE16 X w) (v : Int32) : rE16 (s_X0_takeSetting_X X 2 v) (upd w 18 v) := by
  obtain ⟨h0, h1, h2, h3, h4, h5, h6, h7, h8, h9, h10, h11, h12, h13, h14, h15⟩ := hE
  unfold s_X0_takeSetting_X
  rw [if_neg (by decide), if_neg (by decide), if_pos rfl]; exact ⟨h0, h1, rfl, h3, h4, h5, h6, h7, h8, h9, h10, h11, h12, h13, h14, h15⟩
theorem fset_tx_16 (w : Nat → Int32) (v : Int32) (k : Nat) (hk : (k < 16 ∨ 32 ≤ k)) : s_X7_setTx_16_f w v k = w k := by
  unfold s_X7_setTx_16_f
  split <;> rw [pk_un (by omega), pk_un (by omega), pk_un (by omega)]
theorem fset_rx_16 (w : Nat → Int32) (v : Int32) (k : Nat) (hk : (k < 16 ∨ 32 ≤ k)) : s_X7_setRx_16_f w v k = w k := by
  unfold s_X7_setRx_16_f
  split <;> rw [pk_un (by omega), pk_un (by omega), pk_un (by omega)]
theorem pE_set {X : Nat → Int32} {p v : Int32} (h : pE X) (hv : 0 ≤ v) : pE (s_X0_takeSetting_X X p v) := by
  obtain ⟨h1, h4⟩ := h
  have hm : 0 ≤ kMax (X 4) v := by unfold kMax; split <;> assumption
  unfold s_X0_takeSetting_X
  repeat' split
  all_goals first | exact ⟨h1, h4⟩ | exact ⟨hv, hm⟩ | exact ⟨hv, hv⟩
theorem kdig {t : Nat} (ht : t < 1000) : nI t / 100 = nI (t / 100) ∧ kRem (nI t / 10) 10 = nI (t / 10 % 10) ∧ kRem (nI t) 10 = nI (t % 10) ∧ kRem (nI t) 100 = nI (10 * (t / 10 % 10) + t % 10) := by
  refine ⟨pk_div (by omega) (by decide) (by decide), ?_, kRem_nat (by omega) (by decide) (by decide), ?_⟩
  · rw [show nI t / 10 = nI (t / 10) from pk_div (by omega) (by decide) (by decide)]
    exact kRem_nat (by omega) (by decide) (by decide)
  · rw [show kRem (nI t) 100 = nI (t % 100) from kRem_nat (by omega) (by decide) (by decide)]
    congr 1
    omega
theorem kne_nI {b k : Nat} (hb : b < 100) (hk : k < 100) (h : b ≠ k) : (nI b = nI k) = False := eq_false (fun q => h ((nI_eq (by omega) (by omega)).mp q))
theorem kbig {b : Nat} (h : 2 ≤ b) (hb : b < 10) : (nI b = 0) = False ∧ (nI b = 1) = False ∧ (r_X6_isZeroOrOne (nI b) = 0) = True ∧ (r_X7_noEnd (nI b) = 0) = False := by
  have h0 : (nI b = 0) = False := kne_nI (k := 0) (by omega) (by decide) (by omega)
  have h1 : (nI b = 1) = False := kne_nI (k := 1) (by omega) (by decide) (by omega)
  refine ⟨h0, h1, eq_true (kz01 (fun q => by rw [h0] at q; exact q) (fun q => by rw [h1] at q; exact q)), eq_false (fun q => ?_)⟩
  unfold r_X7_noEnd at q
  rw [if_pos ((kin32 (a := 0) (b := 1) rfl rfl).mpr (Or.inr (nI_lt (a := 1) (by omega) (by omega))))] at q
  exact absurd q (by decide)
theorem ksm0 : (nI 0 = 0) = True ∧ (nI 0 = 1) = False ∧ (r_X6_isZeroOrOne (nI 0) = 0) = False ∧ (r_X7_noEnd (nI 0) = 0) = True := ⟨eq_true (by decide), eq_false (by decide), eq_false (by decide), eq_true (by decide)⟩
theorem ksm1 : (nI 1 = 0) = False ∧ (nI 1 = 1) = True ∧ (r_X6_isZeroOrOne (nI 1) = 0) = False ∧ (r_X7_noEnd (nI 1) = 0) = True := ⟨eq_false (by decide), eq_true (by decide), eq_false (by decide), eq_true (by decide)⟩
theorem k10 (b c : Nat) : 10 * nI b + nI c = nI (10 * b + c) := by rw [show (10 : Int32) = nI 10 from rfl, pk_mul, nI_add]
theorem kone0 : ((1 : Int32) = 0) = False := eq_false (by decide)
theorem kite1 (P : Prop) [Decidable P] : ((if P then (1 : Int32) else 0) = 0) = ¬ P := by
  by_cases h : P
  · rw [if_pos h]; exact propext ⟨fun q => absurd q (by decide), fun q => absurd h q⟩
  · rw [if_neg h]; exact propext ⟨fun _ => h, fun _ => rfl⟩
theorem kfa0 : (nI 0 = 1) = False ∧ (nI 0 = 2) = False ∧ (nI 0 = 3) = False ∧ (nI 0 = 4) = False ∧ (nI 0 = 5) = False ∧ (nI 0 = 6) = False ∧ (nI 0 = 7) = False ∧ (nI 0 < 2) = True ∧ (4 < nI 0) = False ∧ (nI 0 < 5) = True ∧ (7 < nI 0) = False := ⟨eq_false (by decide), eq_false (by decide), eq_false (by decide), eq_false (by decide), eq_false (by decide), eq_false (by decide), eq_false (by decide), eq_true (by decide), eq_false (by decide), eq_true (by decide), eq_false (by decide)⟩
theorem kfa1 : (nI 1 = 1) = True ∧ (nI 1 = 2) = False ∧ (nI 1 = 3) = False ∧ (nI 1 = 4) = False ∧ (nI 1 = 5) = False ∧ (nI 1 = 6) = False ∧ (nI 1 = 7) = False ∧ (nI 1 < 2) = True ∧ (4 < nI 1) = False ∧ (nI 1 < 5) = True ∧ (7 < nI 1) = False := ⟨eq_true (by decide), eq_false (by decide), eq_false (by decide), eq_false (by decide), eq_false (by decide), eq_false (by decide), eq_false (by decide), eq_true (by decide), eq_false (by decide), eq_true (by decide), eq_false (by decide)⟩
theorem kfa2 : (nI 2 = 1) = False ∧ (nI 2 = 2) = True ∧ (nI 2 = 3) = False ∧ (nI 2 = 4) = False ∧ (nI 2 = 5) = False ∧ (nI 2 = 6) = False ∧ (nI 2 = 7) = False ∧ (nI 2 < 2) = False ∧ (4 < nI 2) = False ∧ (nI 2 < 5) = True ∧ (7 < nI 2) = False := ⟨eq_false (by decide), eq_true (by decide), eq_false (by decide), eq_false (by decide), eq_false (by decide), eq_false (by decide), eq_false (by decide), eq_false (by decide), eq_false (by decide), eq_true (by decide), eq_false (by decide)⟩
theorem kfa3 : (nI 3 = 1) = False ∧ (nI 3 = 2) = False ∧ (nI 3 = 3) = True ∧ (nI 3 = 4) = False ∧ (nI 3 = 5) = False ∧ (nI 3 = 6) = False ∧ (nI 3 = 7) = False ∧ (nI 3 < 2) = False ∧ (4 < nI 3) = False ∧ (nI 3 < 5) = True ∧ (7 < nI 3) = False := ⟨eq_false (by decide), eq_false (by decide), eq_true (by decide), eq_false (by decide), eq_false (by decide), eq_false (by decide), eq_false (by decide), eq_false (by decide), eq_false (by decide), eq_true (by decide), eq_false (by decide)⟩
theorem kfa4 : (nI 4 = 1) = False ∧ (nI 4 = 2) = False ∧ (nI 4 = 3) = False ∧ (nI 4 = 4) = True ∧ (nI 4 = 5) = False ∧ (nI 4 = 6) = False ∧ (nI 4 = 7) = False ∧ (nI 4 < 2) = False ∧ (4 < nI 4) = False ∧ (nI 4 < 5) = True ∧ (7 < nI 4) = False := ⟨eq_false (by decide), eq_false (by decide), eq_false (by decide), eq_true (by decide), eq_false (by decide), eq_false (by decide), eq_false (by decide), eq_false (by decide), eq_false (by decide), eq_true (by decide), eq_false (by decide)⟩
theorem kfa5 : (nI 5 = 1) = False ∧ (nI 5 = 2) = False ∧ (nI 5 = 3) = False ∧ (nI 5 = 4) = False ∧ (nI 5 = 5) = True ∧ (nI 5 = 6) = False ∧ (nI 5 = 7) = False ∧ (nI 5 < 2) = False ∧ (4 < nI 5) = True ∧ (nI 5 < 5) = False ∧ (7 < nI 5) = False := ⟨eq_false (by decide), eq_false (by decide), eq_false (by decide), eq_false (by decide), eq_true (by decide), eq_false (by decide), eq_false (by decide), eq_false (by decide), eq_true (by decide), eq_false (by decide), eq_false (by decide)⟩
theorem kfa6 : (nI 6 = 1) = False ∧ (nI 6 = 2) = False ∧ (nI 6 = 3) = False ∧ (nI 6 = 4) = False ∧ (nI 6 = 5) = False ∧ (nI 6 = 6) = True ∧ (nI 6 = 7) = False ∧ (nI 6 < 2) = False ∧ (4 < nI 6) = True ∧ (nI 6 < 5) = False ∧ (7 < nI 6) = False := ⟨eq_false (by decide), eq_false (by decide), eq_false (by decide), eq_false (by decide), eq_false (by decide), eq_true (by decide), eq_false (by decide), eq_false (by decide), eq_true (by decide), eq_false (by decide), eq_false (by decide)⟩
theorem kfa7 : (nI 7 = 1) = False ∧ (nI 7 = 2) = False ∧ (nI 7 = 3) = False ∧ (nI 7 = 4) = False ∧ (nI 7 = 5) = False ∧ (nI 7 = 6) = False ∧ (nI 7 = 7) = True ∧ (nI 7 < 2) = False ∧ (4 < nI 7) = True ∧ (nI 7 < 5) = False ∧ (7 < nI 7) = False := ⟨eq_false (by decide), eq_false (by decide), eq_false (by decide), eq_false (by decide), eq_false (by decide), eq_false (by decide), eq_true (by decide), eq_false (by decide), eq_true (by decide), eq_false (by decide), eq_false (by decide)⟩
theorem kfa8 : (nI 8 = 1) = False ∧ (nI 8 = 2) = False ∧ (nI 8 = 3) = False ∧ (nI 8 = 4) = False ∧ (nI 8 = 5) = False ∧ (nI 8 = 6) = False ∧ (nI 8 = 7) = False ∧ (nI 8 < 2) = False ∧ (4 < nI 8) = True ∧ (nI 8 < 5) = False ∧ (7 < nI 8) = True := ⟨eq_false (by decide), eq_false (by decide), eq_false (by decide), eq_false (by decide), eq_false (by decide), eq_false (by decide), eq_false (by decide), eq_false (by decide), eq_true (by decide), eq_false (by decide), eq_true (by decide)⟩
theorem kfa9 : (nI 9 = 1) = False ∧ (nI 9 = 2) = False ∧ (nI 9 = 3) = False ∧ (nI 9 = 4) = False ∧ (nI 9 = 5) = False ∧ (nI 9 = 6) = False ∧ (nI 9 = 7) = False ∧ (nI 9 < 2) = False ∧ (4 < nI 9) = True ∧ (nI 9 < 5) = False ∧ (7 < nI 9) = True := ⟨eq_false (by decide), eq_false (by decide), eq_false (by decide), eq_false (by decide), eq_false (by decide), eq_false (by decide), eq_false (by decide), eq_false (by decide), eq_true (by decide), eq_false (by decide), eq_true (by decide)⟩
set_option maxHeartbeats 4000000 in
theorem q_does {g : Nat → Nat → Int32} {Z tr : Nat → Int32} (h : rW g tr) (hz : nZ Z) {t : Nat} (ht : t < 1000) : r_X6_canBe g (nI t) = r_X7_does tr (nI (t / 100)) (nI (t / 10 % 10)) (nI (t % 10)) ∧ (¬ r_X6_canBe g (nI t) = 0 → rW (s_X6_canBe_gT g (nI t)) (s_X7_does_tr Z tr (nI (t / 100)) (nI (t / 10 % 10)) (nI (t % 10))) ∧ nZ (s_X7_does_Z Z tr (nI (t / 100)) (nI (t / 10 % 10)) (nI (t % 10)))) := by
  obtain ⟨e1, e2, e3, e4⟩ := kdig ht
  have m0 := rmay_0 h.1
  have m1 := rmay_16 h.2.1
  have p0 := rpace_0 h.1
  have p1 := rpace_16 h.2.1
  have t5 : tr 5 = g 0 5 := h.1.2.2.2.2.2.1
  have t21 : tr 21 = g 1 5 := h.2.1.2.2.2.2.2.1
  have t6 : tr 6 = g 0 6 := h.1.2.2.2.2.2.2.1
  have t22 : tr 22 = g 1 6 := h.2.1.2.2.2.2.2.2.1
  have o6 := koneIf h.2.2.2.2.2.1.1.1
  have o22 := koneIf h.2.2.2.2.2.1.2.1.1
  have d0 := rW_dem0 h
  have d1 := rW_dem1 h
  have w0 := rW_turn2 h
  have w1 := rW_turn3 h
  have l0 := rW_poll0 h
  have l1 := rW_poll1 h
  unfold r_X6_canBe s_X6_canBe_gT r_X6_canBeDone s_X6_canBeDone_gT r_X6_isSo r_X7_does s_X7_does_tr s_X7_does_Z
  rw [e1, e2, e3, e4, m0, m1, p0, p1, t5, t21, t6, t22, o6, o22]
  simp only [k10]
  have ha : t / 100 < 10 := by omega
  have hb : t / 10 % 10 < 10 := by omega
  have hc : t % 10 < 10 := by omega
  generalize t / 100 = a at ha ⊢
  generalize t / 10 % 10 = b at hb ⊢
  generalize t % 10 = c at hc ⊢
  have fb : b = 0 ∨ b = 1 ∨ 2 ≤ b := by omega
  have fc : c = 0 ∨ c = 1 ∨ 2 ≤ c := by omega
  have run : (if nI (10 * b + c) < 1 then (0 : Int32) else if nI (10 * b + c) ≤ 30 then 1 else 0) = (if r_X7_in (nI (10 * b + c)).toInt64 1 30 = 0 then 0 else 1) ∧ (¬ (if nI (10 * b + c) < 1 then (0 : Int32) else if nI (10 * b + c) ≤ 30 then 1 else 0) = 0 → rW (if nI (10 * b + c) < 1 then g else if nI (10 * b + c) ≤ 30 then s_X5_run_g g (nI (10 * b + c)) else g) (if r_X7_in (nI (10 * b + c)).toInt64 1 30 = 0 then tr else s_X7_goFor_f Z tr (nI (10 * b + c))) ∧ nZ (if r_X7_in (nI (10 * b + c)).toInt64 1 30 = 0 then Z else s_X7_goFor_Z Z tr (nI (10 * b + c)))) := by
    generalize nI (10 * b + c) = x
    by_cases a0 : x < 1
    · have q := (kin32 (x := x) (a := 1) (b := 30) (A := 1) (B := 30) rfl rfl).mpr (Or.inl a0)
      rw [if_pos a0, if_pos q]; exact ⟨rfl, fun q => absurd rfl q⟩
    · by_cases a1 : 30 < x
      · have q := (kin32 (x := x) (a := 1) (b := 30) (A := 1) (B := 30) rfl rfl).mpr (Or.inr a1)
        rw [if_neg a0, if_neg (Int32.not_le.mpr a1), if_pos q]; exact ⟨rfl, fun q => absurd rfl q⟩
      · have q : ¬ r_X7_in x.toInt64 1 30 = 0 := fun q => ((kin32 (a := 1) (b := 30) rfl rfl).mp q).elim a0 a1
        rw [if_neg a0, if_pos (Int32.not_lt.mp a1), if_neg q, if_neg a0, if_pos (Int32.not_lt.mp a1), if_neg q, if_neg q]
        exact ⟨rfl, fun _ => rW_run h hz x⟩
  generalize hX : nI (10 * b + c) = X at run ⊢
  rcases fb with rfl | rfl | hb2 <;> rcases fc with rfl | rfl | hc2
  · rcases (show a = 0 ∨ a = 1 ∨ a = 2 ∨ a = 3 ∨ a = 4 ∨ a = 5 ∨ a = 6 ∨ a = 7 ∨ a = 8 ∨ a = 9 by omega) with rfl | rfl | rfl | rfl | rfl | rfl | rfl | rfl | rfl | rfl
    · simp only [kfa0, ksm0, ksm0, if_true, if_false]
      exact ⟨by first | trivial | rfl, fun q => by first | exact absurd trivial q | exact absurd rfl q⟩
    · simp only [kfa1, ksm0, ksm0, if_true, if_false]
      exact run
    · simp only [kfa2, ksm0, ksm0, if_true, if_false]
      simp only [kone0, if_false]
      exact ⟨by first | trivial | rfl, fun _ => ⟨d0, hz⟩⟩
    · simp only [kfa3, ksm0, ksm0, if_true, if_false]
      simp only [kone0, if_false]
      exact ⟨by first | trivial | rfl, fun _ => ⟨w0, hz⟩⟩
    · simp only [kfa4, ksm0, ksm0, if_true, if_false]
      by_cases q : r_X0_canBePolled (g 0) = 0
      · simp only [q, if_true]; exact ⟨by first | trivial | rfl, fun q => by first | exact absurd trivial q | exact absurd rfl q⟩
      · simp only [q, kone0, if_false]; exact ⟨by first | trivial | rfl, fun _ => ⟨l0, hz⟩⟩
    · simp only [kfa5, ksm0, ksm0, if_true, if_false]
      by_cases q : g 0 5 = nI 0
      · simp only [q, if_true, kone0, if_false]; exact ⟨by first | trivial | rfl, fun _ => ⟨h, hz⟩⟩
      · simp only [q, if_false, if_true]; exact ⟨by first | trivial | rfl, fun q => by first | exact absurd trivial q | exact absurd rfl q⟩
    · simp only [kfa6, ksm0, ksm0, if_true, if_false]
      by_cases q : g 0 6 = nI 0
      · simp only [q, if_true, kone0, if_false]; exact ⟨by first | trivial | rfl, fun _ => ⟨h, hz⟩⟩
      · simp only [q, if_false, if_true]; exact ⟨by first | trivial | rfl, fun q => by first | exact absurd trivial q | exact absurd rfl q⟩
    · simp only [kfa7, ksm0, ksm0, if_true, if_false]
      by_cases q : r_X0_pace (g 0) = nI 0
      · simp only [q, if_true, kone0, if_false]; exact ⟨by first | trivial | rfl, fun _ => ⟨h, hz⟩⟩
      · simp only [q, if_false, if_true]; exact ⟨by first | trivial | rfl, fun q => by first | exact absurd trivial q | exact absurd rfl q⟩
    · simp only [kfa8, ksm0, ksm0, if_true, if_false]
      exact ⟨by first | trivial | rfl, fun q => by first | exact absurd trivial q | exact absurd rfl q⟩
    · simp only [kfa9, ksm0, ksm0, if_true, if_false]
      exact ⟨by first | trivial | rfl, fun q => by first | exact absurd trivial q | exact absurd rfl q⟩
  · rcases (show a = 0 ∨ a = 1 ∨ a = 2 ∨ a = 3 ∨ a = 4 ∨ a = 5 ∨ a = 6 ∨ a = 7 ∨ a = 8 ∨ a = 9 by omega) with rfl | rfl | rfl | rfl | rfl | rfl | rfl | rfl | rfl | rfl
    · simp only [kfa0, ksm0, ksm1, if_true, if_false]
      exact ⟨by first | trivial | rfl, fun q => by first | exact absurd trivial q | exact absurd rfl q⟩
    · simp only [kfa1, ksm0, ksm1, if_true, if_false]
      exact run
    · simp only [kfa2, ksm0, ksm1, if_true, if_false]
      simp only [kone0, if_false]
      exact ⟨by first | trivial | rfl, fun _ => ⟨d1, hz⟩⟩
    · simp only [kfa3, ksm0, ksm1, if_true, if_false]
      simp only [kone0, if_false]
      exact ⟨by first | trivial | rfl, fun _ => ⟨w1, hz⟩⟩
    · simp only [kfa4, ksm0, ksm1, if_true, if_false]
      by_cases q : r_X0_canBePolled (g 1) = 0
      · simp only [q, if_true]; exact ⟨by first | trivial | rfl, fun q => by first | exact absurd trivial q | exact absurd rfl q⟩
      · simp only [q, kone0, if_false]; exact ⟨by first | trivial | rfl, fun _ => ⟨l1, hz⟩⟩
    · simp only [kfa5, ksm0, ksm1, if_true, if_false]
      by_cases q : g 0 5 = nI 1
      · simp only [q, if_true, kone0, if_false]; exact ⟨by first | trivial | rfl, fun _ => ⟨h, hz⟩⟩
      · simp only [q, if_false, if_true]; exact ⟨by first | trivial | rfl, fun q => by first | exact absurd trivial q | exact absurd rfl q⟩
    · simp only [kfa6, ksm0, ksm1, if_true, if_false]
      by_cases q : g 0 6 = nI 1
      · simp only [q, if_true, kone0, if_false]; exact ⟨by first | trivial | rfl, fun _ => ⟨h, hz⟩⟩
      · simp only [q, if_false, if_true]; exact ⟨by first | trivial | rfl, fun q => by first | exact absurd trivial q | exact absurd rfl q⟩
    · simp only [kfa7, ksm0, ksm1, if_true, if_false]
      by_cases q : r_X0_pace (g 0) = nI 1
      · simp only [q, if_true, kone0, if_false]; exact ⟨by first | trivial | rfl, fun _ => ⟨h, hz⟩⟩
      · simp only [q, if_false, if_true]; exact ⟨by first | trivial | rfl, fun q => by first | exact absurd trivial q | exact absurd rfl q⟩
    · simp only [kfa8, ksm0, ksm1, if_true, if_false]
      exact ⟨by first | trivial | rfl, fun q => by first | exact absurd trivial q | exact absurd rfl q⟩
    · simp only [kfa9, ksm0, ksm1, if_true, if_false]
      exact ⟨by first | trivial | rfl, fun q => by first | exact absurd trivial q | exact absurd rfl q⟩
  · rcases (show a = 0 ∨ a = 1 ∨ a = 2 ∨ a = 3 ∨ a = 4 ∨ a = 5 ∨ a = 6 ∨ a = 7 ∨ a = 8 ∨ a = 9 by omega) with rfl | rfl | rfl | rfl | rfl | rfl | rfl | rfl | rfl | rfl
    · simp only [kfa0, ksm0, (kbig hc2 hc), if_true, if_false]
      exact ⟨by first | trivial | rfl, fun q => by first | exact absurd trivial q | exact absurd rfl q⟩
    · simp only [kfa1, ksm0, (kbig hc2 hc), if_true, if_false]
      exact run
    · simp only [kfa2, ksm0, (kbig hc2 hc), if_true, if_false]
      exact ⟨by first | trivial | rfl, fun q => by first | exact absurd trivial q | exact absurd rfl q⟩
    · simp only [kfa3, ksm0, (kbig hc2 hc), if_true, if_false]
      exact ⟨by first | trivial | rfl, fun q => by first | exact absurd trivial q | exact absurd rfl q⟩
    · simp only [kfa4, ksm0, (kbig hc2 hc), if_true, if_false]
      exact ⟨by first | trivial | rfl, fun q => by first | exact absurd trivial q | exact absurd rfl q⟩
    · simp only [kfa5, ksm0, (kbig hc2 hc), if_true, if_false]
      by_cases q : g 0 5 = nI c
      · simp only [q, if_true, kone0, if_false]; exact ⟨by first | trivial | rfl, fun _ => ⟨h, hz⟩⟩
      · simp only [q, if_false, if_true]; exact ⟨by first | trivial | rfl, fun q => by first | exact absurd trivial q | exact absurd rfl q⟩
    · simp only [kfa6, ksm0, (kbig hc2 hc), if_true, if_false]
      by_cases q : g 0 6 = nI c
      · simp only [q, if_true, kone0, if_false]; exact ⟨by first | trivial | rfl, fun _ => ⟨h, hz⟩⟩
      · simp only [q, if_false, if_true]; exact ⟨by first | trivial | rfl, fun q => by first | exact absurd trivial q | exact absurd rfl q⟩
    · simp only [kfa7, ksm0, (kbig hc2 hc), if_true, if_false]
      by_cases q : r_X0_pace (g 0) = nI c
      · simp only [q, if_true, kone0, if_false]; exact ⟨by first | trivial | rfl, fun _ => ⟨h, hz⟩⟩
      · simp only [q, if_false, if_true]; exact ⟨by first | trivial | rfl, fun q => by first | exact absurd trivial q | exact absurd rfl q⟩
    · simp only [kfa8, ksm0, (kbig hc2 hc), if_true, if_false]
      exact ⟨by first | trivial | rfl, fun q => by first | exact absurd trivial q | exact absurd rfl q⟩
    · simp only [kfa9, ksm0, (kbig hc2 hc), if_true, if_false]
      exact ⟨by first | trivial | rfl, fun q => by first | exact absurd trivial q | exact absurd rfl q⟩
  · rcases (show a = 0 ∨ a = 1 ∨ a = 2 ∨ a = 3 ∨ a = 4 ∨ a = 5 ∨ a = 6 ∨ a = 7 ∨ a = 8 ∨ a = 9 by omega) with rfl | rfl | rfl | rfl | rfl | rfl | rfl | rfl | rfl | rfl
    · simp only [kfa0, ksm1, ksm0, if_true, if_false]
      exact ⟨by first | trivial | rfl, fun q => by first | exact absurd trivial q | exact absurd rfl q⟩
    · simp only [kfa1, ksm1, ksm0, if_true, if_false]
      exact run
    · simp only [kfa2, ksm1, ksm0, if_true, if_false]
      exact ⟨by first | trivial | rfl, fun q => by first | exact absurd trivial q | exact absurd rfl q⟩
    · simp only [kfa3, ksm1, ksm0, if_true, if_false]
      exact ⟨by first | trivial | rfl, fun q => by first | exact absurd trivial q | exact absurd rfl q⟩
    · simp only [kfa4, ksm1, ksm0, if_true, if_false]
      exact ⟨by first | trivial | rfl, fun q => by first | exact absurd trivial q | exact absurd rfl q⟩
    · simp only [kfa5, ksm1, ksm0, if_true, if_false]
      by_cases q : g 1 5 = nI 0
      · simp only [q, if_true, kone0, if_false]; exact ⟨by first | trivial | rfl, fun _ => ⟨h, hz⟩⟩
      · simp only [q, if_false, if_true]; exact ⟨by first | trivial | rfl, fun q => by first | exact absurd trivial q | exact absurd rfl q⟩
    · simp only [kfa6, ksm1, ksm0, if_true, if_false]
      by_cases q : g 1 6 = nI 0
      · simp only [q, if_true, kone0, if_false]; exact ⟨by first | trivial | rfl, fun _ => ⟨h, hz⟩⟩
      · simp only [q, if_false, if_true]; exact ⟨by first | trivial | rfl, fun q => by first | exact absurd trivial q | exact absurd rfl q⟩
    · simp only [kfa7, ksm1, ksm0, if_true, if_false]
      by_cases q : r_X0_pace (g 1) = nI 0
      · simp only [q, if_true, kone0, if_false]; exact ⟨by first | trivial | rfl, fun _ => ⟨h, hz⟩⟩
      · simp only [q, if_false, if_true]; exact ⟨by first | trivial | rfl, fun q => by first | exact absurd trivial q | exact absurd rfl q⟩
    · simp only [kfa8, ksm1, ksm0, if_true, if_false]
      exact ⟨by first | trivial | rfl, fun q => by first | exact absurd trivial q | exact absurd rfl q⟩
    · simp only [kfa9, ksm1, ksm0, if_true, if_false]
      exact ⟨by first | trivial | rfl, fun q => by first | exact absurd trivial q | exact absurd rfl q⟩
  · rcases (show a = 0 ∨ a = 1 ∨ a = 2 ∨ a = 3 ∨ a = 4 ∨ a = 5 ∨ a = 6 ∨ a = 7 ∨ a = 8 ∨ a = 9 by omega) with rfl | rfl | rfl | rfl | rfl | rfl | rfl | rfl | rfl | rfl
    · simp only [kfa0, ksm1, ksm1, if_true, if_false]
      exact ⟨by first | trivial | rfl, fun q => by first | exact absurd trivial q | exact absurd rfl q⟩
    · simp only [kfa1, ksm1, ksm1, if_true, if_false]
      exact run
    · simp only [kfa2, ksm1, ksm1, if_true, if_false]
      exact ⟨by first | trivial | rfl, fun q => by first | exact absurd trivial q | exact absurd rfl q⟩
    · simp only [kfa3, ksm1, ksm1, if_true, if_false]
      exact ⟨by first | trivial | rfl, fun q => by first | exact absurd trivial q | exact absurd rfl q⟩
    · simp only [kfa4, ksm1, ksm1, if_true, if_false]
      exact ⟨by first | trivial | rfl, fun q => by first | exact absurd trivial q | exact absurd rfl q⟩
    · simp only [kfa5, ksm1, ksm1, if_true, if_false]
      by_cases q : g 1 5 = nI 1
      · simp only [q, if_true, kone0, if_false]; exact ⟨by first | trivial | rfl, fun _ => ⟨h, hz⟩⟩
      · simp only [q, if_false, if_true]; exact ⟨by first | trivial | rfl, fun q => by first | exact absurd trivial q | exact absurd rfl q⟩
    · simp only [kfa6, ksm1, ksm1, if_true, if_false]
      by_cases q : g 1 6 = nI 1
      · simp only [q, if_true, kone0, if_false]; exact ⟨by first | trivial | rfl, fun _ => ⟨h, hz⟩⟩
      · simp only [q, if_false, if_true]; exact ⟨by first | trivial | rfl, fun q => by first | exact absurd trivial q | exact absurd rfl q⟩
    · simp only [kfa7, ksm1, ksm1, if_true, if_false]
      by_cases q : r_X0_pace (g 1) = nI 1
      · simp only [q, if_true, kone0, if_false]; exact ⟨by first | trivial | rfl, fun _ => ⟨h, hz⟩⟩
      · simp only [q, if_false, if_true]; exact ⟨by first | trivial | rfl, fun q => by first | exact absurd trivial q | exact absurd rfl q⟩
    · simp only [kfa8, ksm1, ksm1, if_true, if_false]
      exact ⟨by first | trivial | rfl, fun q => by first | exact absurd trivial q | exact absurd rfl q⟩
    · simp only [kfa9, ksm1, ksm1, if_true, if_false]
      exact ⟨by first | trivial | rfl, fun q => by first | exact absurd trivial q | exact absurd rfl q⟩
  · rcases (show a = 0 ∨ a = 1 ∨ a = 2 ∨ a = 3 ∨ a = 4 ∨ a = 5 ∨ a = 6 ∨ a = 7 ∨ a = 8 ∨ a = 9 by omega) with rfl | rfl | rfl | rfl | rfl | rfl | rfl | rfl | rfl | rfl
    · simp only [kfa0, ksm1, (kbig hc2 hc), if_true, if_false]
      exact ⟨by first | trivial | rfl, fun q => by first | exact absurd trivial q | exact absurd rfl q⟩
    · simp only [kfa1, ksm1, (kbig hc2 hc), if_true, if_false]
      exact run
    · simp only [kfa2, ksm1, (kbig hc2 hc), if_true, if_false]
      exact ⟨by first | trivial | rfl, fun q => by first | exact absurd trivial q | exact absurd rfl q⟩
    · simp only [kfa3, ksm1, (kbig hc2 hc), if_true, if_false]
      exact ⟨by first | trivial | rfl, fun q => by first | exact absurd trivial q | exact absurd rfl q⟩
    · simp only [kfa4, ksm1, (kbig hc2 hc), if_true, if_false]
      exact ⟨by first | trivial | rfl, fun q => by first | exact absurd trivial q | exact absurd rfl q⟩
    · simp only [kfa5, ksm1, (kbig hc2 hc), if_true, if_false]
      by_cases q : g 1 5 = nI c
      · simp only [q, if_true, kone0, if_false]; exact ⟨by first | trivial | rfl, fun _ => ⟨h, hz⟩⟩
      · simp only [q, if_false, if_true]; exact ⟨by first | trivial | rfl, fun q => by first | exact absurd trivial q | exact absurd rfl q⟩
    · simp only [kfa6, ksm1, (kbig hc2 hc), if_true, if_false]
      by_cases q : g 1 6 = nI c
      · simp only [q, if_true, kone0, if_false]; exact ⟨by first | trivial | rfl, fun _ => ⟨h, hz⟩⟩
      · simp only [q, if_false, if_true]; exact ⟨by first | trivial | rfl, fun q => by first | exact absurd trivial q | exact absurd rfl q⟩
    · simp only [kfa7, ksm1, (kbig hc2 hc), if_true, if_false]
      by_cases q : r_X0_pace (g 1) = nI c
      · simp only [q, if_true, kone0, if_false]; exact ⟨by first | trivial | rfl, fun _ => ⟨h, hz⟩⟩
      · simp only [q, if_false, if_true]; exact ⟨by first | trivial | rfl, fun q => by first | exact absurd trivial q | exact absurd rfl q⟩
    · simp only [kfa8, ksm1, (kbig hc2 hc), if_true, if_false]
      exact ⟨by first | trivial | rfl, fun q => by first | exact absurd trivial q | exact absurd rfl q⟩
    · simp only [kfa9, ksm1, (kbig hc2 hc), if_true, if_false]
      exact ⟨by first | trivial | rfl, fun q => by first | exact absurd trivial q | exact absurd rfl q⟩
  · rcases (show a = 0 ∨ a = 1 ∨ a = 2 ∨ a = 3 ∨ a = 4 ∨ a = 5 ∨ a = 6 ∨ a = 7 ∨ a = 8 ∨ a = 9 by omega) with rfl | rfl | rfl | rfl | rfl | rfl | rfl | rfl | rfl | rfl
    · simp only [kfa0, (kbig hb2 hb), ksm0, if_true, if_false]
      exact ⟨by first | trivial | rfl, fun q => by first | exact absurd trivial q | exact absurd rfl q⟩
    · simp only [kfa1, (kbig hb2 hb), ksm0, if_true, if_false]
      exact run
    · simp only [kfa2, (kbig hb2 hb), ksm0, if_true, if_false]
      exact ⟨by first | trivial | rfl, fun q => by first | exact absurd trivial q | exact absurd rfl q⟩
    · simp only [kfa3, (kbig hb2 hb), ksm0, if_true, if_false]
      exact ⟨by first | trivial | rfl, fun q => by first | exact absurd trivial q | exact absurd rfl q⟩
    · simp only [kfa4, (kbig hb2 hb), ksm0, if_true, if_false]
      exact ⟨by first | trivial | rfl, fun q => by first | exact absurd trivial q | exact absurd rfl q⟩
    · simp only [kfa5, (kbig hb2 hb), ksm0, if_true, if_false]
      exact ⟨by first | trivial | rfl, fun q => by first | exact absurd trivial q | exact absurd rfl q⟩
    · simp only [kfa6, (kbig hb2 hb), ksm0, if_true, if_false]
      exact ⟨by first | trivial | rfl, fun q => by first | exact absurd trivial q | exact absurd rfl q⟩
    · simp only [kfa7, (kbig hb2 hb), ksm0, if_true, if_false]
      exact ⟨by first | trivial | rfl, fun q => by first | exact absurd trivial q | exact absurd rfl q⟩
    · simp only [kfa8, (kbig hb2 hb), ksm0, if_true, if_false]
      exact ⟨by first | trivial | rfl, fun q => by first | exact absurd trivial q | exact absurd rfl q⟩
    · simp only [kfa9, (kbig hb2 hb), ksm0, if_true, if_false]
      exact ⟨by first | trivial | rfl, fun q => by first | exact absurd trivial q | exact absurd rfl q⟩
  · rcases (show a = 0 ∨ a = 1 ∨ a = 2 ∨ a = 3 ∨ a = 4 ∨ a = 5 ∨ a = 6 ∨ a = 7 ∨ a = 8 ∨ a = 9 by omega) with rfl | rfl | rfl | rfl | rfl | rfl | rfl | rfl | rfl | rfl
    · simp only [kfa0, (kbig hb2 hb), ksm1, if_true, if_false]
      exact ⟨by first | trivial | rfl, fun q => by first | exact absurd trivial q | exact absurd rfl q⟩
    · simp only [kfa1, (kbig hb2 hb), ksm1, if_true, if_false]
      exact run
    · simp only [kfa2, (kbig hb2 hb), ksm1, if_true, if_false]
      exact ⟨by first | trivial | rfl, fun q => by first | exact absurd trivial q | exact absurd rfl q⟩
    · simp only [kfa3, (kbig hb2 hb), ksm1, if_true, if_false]
      exact ⟨by first | trivial | rfl, fun q => by first | exact absurd trivial q | exact absurd rfl q⟩
    · simp only [kfa4, (kbig hb2 hb), ksm1, if_true, if_false]
      exact ⟨by first | trivial | rfl, fun q => by first | exact absurd trivial q | exact absurd rfl q⟩
    · simp only [kfa5, (kbig hb2 hb), ksm1, if_true, if_false]
      exact ⟨by first | trivial | rfl, fun q => by first | exact absurd trivial q | exact absurd rfl q⟩
    · simp only [kfa6, (kbig hb2 hb), ksm1, if_true, if_false]
      exact ⟨by first | trivial | rfl, fun q => by first | exact absurd trivial q | exact absurd rfl q⟩
    · simp only [kfa7, (kbig hb2 hb), ksm1, if_true, if_false]
      exact ⟨by first | trivial | rfl, fun q => by first | exact absurd trivial q | exact absurd rfl q⟩
    · simp only [kfa8, (kbig hb2 hb), ksm1, if_true, if_false]
      exact ⟨by first | trivial | rfl, fun q => by first | exact absurd trivial q | exact absurd rfl q⟩
    · simp only [kfa9, (kbig hb2 hb), ksm1, if_true, if_false]
      exact ⟨by first | trivial | rfl, fun q => by first | exact absurd trivial q | exact absurd rfl q⟩
  · rcases (show a = 0 ∨ a = 1 ∨ a = 2 ∨ a = 3 ∨ a = 4 ∨ a = 5 ∨ a = 6 ∨ a = 7 ∨ a = 8 ∨ a = 9 by omega) with rfl | rfl | rfl | rfl | rfl | rfl | rfl | rfl | rfl | rfl
    · simp only [kfa0, (kbig hb2 hb), (kbig hc2 hc), if_true, if_false]
      exact ⟨by first | trivial | rfl, fun q => by first | exact absurd trivial q | exact absurd rfl q⟩
    · simp only [kfa1, (kbig hb2 hb), (kbig hc2 hc), if_true, if_false]
      exact run
    · simp only [kfa2, (kbig hb2 hb), (kbig hc2 hc), if_true, if_false]
      exact ⟨by first | trivial | rfl, fun q => by first | exact absurd trivial q | exact absurd rfl q⟩
    · simp only [kfa3, (kbig hb2 hb), (kbig hc2 hc), if_true, if_false]
      exact ⟨by first | trivial | rfl, fun q => by first | exact absurd trivial q | exact absurd rfl q⟩
    · simp only [kfa4, (kbig hb2 hb), (kbig hc2 hc), if_true, if_false]
      exact ⟨by first | trivial | rfl, fun q => by first | exact absurd trivial q | exact absurd rfl q⟩
    · simp only [kfa5, (kbig hb2 hb), (kbig hc2 hc), if_true, if_false]
      exact ⟨by first | trivial | rfl, fun q => by first | exact absurd trivial q | exact absurd rfl q⟩
    · simp only [kfa6, (kbig hb2 hb), (kbig hc2 hc), if_true, if_false]
      exact ⟨by first | trivial | rfl, fun q => by first | exact absurd trivial q | exact absurd rfl q⟩
    · simp only [kfa7, (kbig hb2 hb), (kbig hc2 hc), if_true, if_false]
      exact ⟨by first | trivial | rfl, fun q => by first | exact absurd trivial q | exact absurd rfl q⟩
    · simp only [kfa8, (kbig hb2 hb), (kbig hc2 hc), if_true, if_false]
      exact ⟨by first | trivial | rfl, fun q => by first | exact absurd trivial q | exact absurd rfl q⟩
    · simp only [kfa9, (kbig hb2 hb), (kbig hc2 hc), if_true, if_false]
      exact ⟨by first | trivial | rfl, fun q => by first | exact absurd trivial q | exact absurd rfl q⟩
