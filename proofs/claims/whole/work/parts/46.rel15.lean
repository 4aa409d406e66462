/-! the link that is read -/
theorem llf : ∀ (n j : Nat) (f : Nat → Int32), l_X7_layFirst_1_f n j f = l_X7_layFirst_1_f 0 0 (fun k => if j ≤ k ∧ k < j + n then 0 else f k)
  | 0, j, f => by
    have : (fun k => if j ≤ k ∧ k < j + 0 then 0 else f k) = f := funext fun k => if_neg (by omega)
    rw [this]; rfl
  | n + 1, j, f => by
    show l_X7_layFirst_1_f n (j + 1) (upd f j 0) = _
    rw [llf n (j + 1) (upd f j 0)]
    congr 1
    funext k
    by_cases h : k = j
    · subst h
      rw [if_neg (by omega), if_pos (by omega), pk_us]
    · rw [pk_un h]
      by_cases h2 : j + 1 ≤ k ∧ k < j + 1 + n
      · rw [if_pos h2, if_pos (by omega)]
      · rw [if_neg h2, if_neg (by omega)]
theorem layF (f : Nat → Int32) : ∃ f0 : Nat → Int32, (∀ k, k < 55 → f0 k = 0) ∧ s_X7_layFirst_f f = upd (upd (upd (upd (upd (upd (upd (upd (upd (upd (upd (upd (upd (upd (upd (upd (upd (upd f0 0 1) 1 1) 2 1) 3 1) 4 1) 12 1) 13 1) 14 1) 32 1) 16 1) 17 1) 18 1) 19 1) 20 1) 28 1) 29 1) 30 1) 33 1 := by
  refine ⟨fun k => if 0 ≤ k ∧ k < 0 + 55 then 0 else f k, fun k hk => if_pos (by omega), ?_⟩
  unfold s_X7_layFirst_f
  rw [llf, l_X7_layFirst_1_f]
theorem ktake0 {X : Nat → Int32} (h : X 5 = 0) (v : Int32) : s_X0_takeSetting_X X 0 v = upd (upd X 0 v) 3 v := by
  unfold s_X0_takeSetting_X
  rw [if_pos rfl, h, if_neg (by decide), if_neg (by decide)]
theorem ktake1 {X : Nat → Int32} (h : X 5 = 0) (v : Int32) : s_X0_takeSetting_X X 1 v = upd (upd X 1 v) 4 v := by
  unfold s_X0_takeSetting_X
  rw [if_neg (by decide), if_pos rfl, h, if_neg (by decide), if_neg (by decide)]
theorem ktake2 (X : Nat → Int32) (v : Int32) : s_X0_takeSetting_X X 2 v = upd X 2 v := by
  unfold s_X0_takeSetting_X
  rw [if_neg (by decide), if_neg (by decide), if_pos rfl]
def kHdr (tx rp : Nat → Int32) : Nat → Int32 := (upd (upd (upd (upd (upd (upd (upd (upd (upd (upd (s_X7_layFirst_f rp) 0 ((tx 1) - 48)) 1 ((tx 2) - 48)) 2 ((tx 3) - 48)) 16 ((tx 4) - 48)) 17 ((tx 5) - 48)) 18 ((tx 6) - 48)) 3 ((tx 1) - 48)) 4 ((tx 2) - 48)) 19 ((tx 4) - 48)) 20 ((tx 5) - 48))
theorem rW_head {sg tx rp : Nat → Int32} (g : Nat → Nat → Int32) (ht : ∀ i, i < 7 → tx i = sg i) (h2 : 0 ≤ (sg 2) - 48) (h5 : 0 ≤ (sg 5) - 48) : rW ((kg (s_X0_takeSetting_X (s_X0_takeSetting_X (s_X0_takeSetting_X (upd (upd (upd (upd (upd (upd (upd (upd (upd (upd (upd (upd (upd (upd (upd (upd (g 0) 0 1) 1 1) 2 1) 3 1) 4 1) 5 0) 8 0) 9 0) 6 0) 7 0) 10 0) 11 0) 12 1) 13 1) 14 1) 15 0) 0 ((sg 1) - 48)) 1 ((sg 2) - 48)) 2 ((sg 3) - 48)) (s_X0_takeSetting_X (s_X0_takeSetting_X (s_X0_takeSetting_X (upd (upd (upd (upd (upd (upd (upd (upd (upd (upd (upd (upd (upd (upd (upd (upd (g 1) 0 1) 1 1) 2 1) 3 1) 4 1) 5 0) 8 0) 9 0) 6 0) 7 0) 10 0) 11 0) 12 1) 13 1) 14 1) 15 0) 0 ((sg 4) - 48)) 1 ((sg 5) - 48)) 2 ((sg 6) - 48)) (upd (upd (upd (upd (upd (upd (upd (upd (upd (upd (upd (g 2) 9 1) 0 0) 6 0) 7 0) 8 0) 10 0) 1 0) 2 1) 3 1) 4 1) 5 0) (upd (upd (upd (upd (upd (upd (upd (upd (upd (upd (upd (g 3) 9 1) 0 0) 6 0) 7 0) 8 0) 10 0) 1 0) 2 1) 3 1) 4 1) 5 0) (upd (upd (upd (upd (g 4) 0 0) 1 0) 2 0) 3 0))) (kHdr tx rp) := by
  unfold kHdr
  obtain ⟨f0, hf, e⟩ := layF rp
  rw [e, ht 1 (by decide), ht 2 (by decide), ht 3 (by decide), ht 4 (by decide), ht 5 (by decide), ht 6 (by decide)]
  rw [ktake0 (X := upd _ 15 0) rfl, ktake0 (X := upd _ 15 0) rfl, ktake1 (X := upd (upd _ 0 _) 3 _) rfl, ktake1 (X := upd (upd _ 0 _) 3 _) rfl, ktake2, ktake2]
  refine ⟨⟨rfl, rfl, rfl, rfl, rfl, hf 5 (by decide), hf 6 (by decide), hf 7 (by decide), hf 8 (by decide), hf 9 (by decide), hf 10 (by decide), hf 11 (by decide), rfl, rfl, rfl, hf 15 (by decide)⟩, ⟨rfl, rfl, rfl, rfl, rfl, hf 21 (by decide), hf 22 (by decide), hf 23 (by decide), hf 24 (by decide), hf 25 (by decide), hf 26 (by decide), hf 27 (by decide), rfl, rfl, rfl, hf 31 (by decide)⟩, ⟨rfl, hf 34 (by decide), fun q => absurd (show (0 : Int32) = 1 from q) (by decide)⟩, ⟨rfl, hf 43 (by decide), fun q => absurd (show (0 : Int32) = 1 from q) (by decide)⟩, ⟨hf 52 (by decide), hf 53 (by decide), hf 54 (by decide)⟩, ⟨⟨Or.inl rfl, Or.inl rfl, Or.inl rfl, Or.inl rfl⟩, ⟨Or.inl rfl, Or.inl rfl, Or.inl rfl, Or.inl rfl⟩, ⟨Or.inl rfl, Or.inl rfl, Or.inl rfl, Or.inl rfl, Or.inl rfl, Or.inr rfl⟩, ⟨Or.inl rfl, Or.inl rfl, Or.inl rfl, Or.inl rfl, Or.inl rfl, Or.inr rfl⟩⟩, ⟨⟨h2, h2⟩, ⟨h5, h5⟩⟩, rfl, rfl, rfl⟩
theorem lrp (L : Nat) (tx rp : Nat → Int32) : ∀ (n j p m : Nat) (re : Nat → Int32), l_X7_readLink_1_rp L tx rp n j p m re = kHdr tx rp
  | 0, j, p, m, re => by rw [l_X7_readLink_1_rp]; rfl
  | n + 1, j, p, m, re => by
    rw [l_X7_readLink_1_rp]
    repeat' split
    all_goals first | exact lrp L tx rp n _ _ _ _ | (unfold kHdr; rfl)
theorem lre_lt (L : Nat) (tx : Nat → Int32) (k : Nat) : ∀ (n j p m : Nat) (re : Nat → Int32), k < m → l_X7_readLink_1_re L tx n j p m re k = re k
  | 0, j, p, m, re, h => by rw [l_X7_readLink_1_re]
  | n + 1, j, p, m, re, h => by
    rw [l_X7_readLink_1_re]
    repeat' split
    all_goals first | rfl | (rw [lre_lt L tx k n _ _ _ _ (by omega), pk_un (by omega)])
theorem lZ_m (Z : Nat → Int32) (L : Nat) (tx : Nat → Int32) (hL : L ≤ 70) : ∀ (n j p m : Nat) (re : Nat → Int32), m ≤ p → p ≤ L → ∃ k : Nat, m ≤ k ∧ k ≤ L ∧ l_X7_readLink_1_Z Z L tx n j p m re 6 = nI k
  | 0, j, p, m, re, hm, hp => ⟨m, by omega, by omega, by rw [l_X7_readLink_1_Z]; rfl⟩
  | n + 1, j, p, m, re, hm, hp => by
    rw [l_X7_readLink_1_Z]
    by_cases c1 : nI L ≤ nI p
    · rw [if_pos c1]; exact ⟨m, by omega, by omega, rfl⟩
    · rw [if_neg c1]
      have hpl : p < L := knle_lt c1 (by omega) (by omega)
      by_cases c2 : tx p = 100
      · rw [if_pos c2]
        by_cases c3 : kfig L tx (p + 1) 0 1
        · rw [if_pos c3]
          obtain ⟨k, a, b, e⟩ := lZ_m Z L tx hL n (j + 1) ((p + 1) + 1) (m + 1) (upd re m (10 + ((tx (p + 1)) - 48))) (by omega) (by have := c3.1; omega)
          exact ⟨k, by omega, b, e⟩
        · rw [if_neg c3]; exact ⟨m, by omega, by omega, rfl⟩
      · rw [if_neg c2]
        by_cases c2 : tx p = 119
        · rw [if_pos c2]
          by_cases c3 : kfig L tx (p + 1) 0 1
          · rw [if_pos c3]
            obtain ⟨k, a, b, e⟩ := lZ_m Z L tx hL n (j + 1) ((p + 1) + 1) (m + 1) (upd re m (20 + ((tx (p + 1)) - 48))) (by omega) (by have := c3.1; omega)
            exact ⟨k, by omega, b, e⟩
          · rw [if_neg c3]; exact ⟨m, by omega, by omega, rfl⟩
        · rw [if_neg c2]
          by_cases c3 : kfig L tx p 1 9
          · rw [if_pos c3]
            obtain ⟨k, a, b, e⟩ := lZ_m Z L tx hL n (j + 1) (p + 1) (m + 1) (upd re m ((tx p) - 48)) (by omega) (by have := c3.1; omega)
            exact ⟨k, by omega, b, e⟩
          · rw [if_neg c3]; exact ⟨m, by omega, by omega, rfl⟩
theorem lZ_k (Z : Nat → Int32) (L : Nat) (tx : Nat → Int32) (k : Nat) (h3 : k ≠ 3) (h6 : k ≠ 6) : ∀ (n j p m : Nat) (re : Nat → Int32), l_X7_readLink_1_Z Z L tx n j p m re k = upd Z 2 (nI L) k
  | 0, j, p, m, re => by rw [l_X7_readLink_1_Z, pk_un h6, pk_un h3]
  | n + 1, j, p, m, re => by
    rw [l_X7_readLink_1_Z]
    repeat' split
    all_goals first | exact lZ_k Z L tx k h3 h6 n _ _ _ _ | rw [pk_un h6, pk_un h3]
theorem sZ_k (Z : Nat → Int32) (L : Nat) (tx re : Nat → Int32) (k : Nat) (h3 : k ≠ 3) (h6 : k ≠ 6) : s_X7_readLink_Z Z L tx re k = upd Z 2 (nI L) k := by
  unfold s_X7_readLink_Z
  repeat' split
  all_goals first | exact lZ_k Z L tx k h3 h6 _ _ _ _ _ | rw [pk_un h6, pk_un h3] | rw [pk_un h3, pk_un h6, pk_un h3]
theorem lk_10 {L : Nat} {tx re0 : Nat → Int32} {n j : Nat} {Z w : Nat → Int32} (e : s_X7_readLink_re L tx re0 j = 10 + 0) : l_X7_link_1_r L tx re0 (n + 1) j Z w = l_X7_link_1_r L tx re0 n (j + 1) Z (upd w 7 ((w 7) ^^^ 1)) ∧ l_X7_link_1_pg L tx re0 (n + 1) j Z w = l_X7_link_1_pg L tx re0 n (j + 1) Z (upd w 7 ((w 7) ^^^ 1)) ∧ l_X7_link_1_Z L tx re0 (n + 1) j Z w = l_X7_link_1_Z L tx re0 n (j + 1) Z (upd w 7 ((w 7) ^^^ 1)) := by
  rw [show (10 : Int32) + 0 = 10 from rfl] at e
  refine ⟨?_, ?_, ?_⟩
  · rw [l_X7_link_1_r, e, if_pos (by decide), if_neg (by decide), if_pos (by decide)]
  · rw [l_X7_link_1_pg, e, if_pos (by decide), if_neg (by decide), if_pos (by decide)]
  · rw [l_X7_link_1_Z, e, if_pos (by decide), if_neg (by decide), if_pos (by decide)]
theorem lk_11 {L : Nat} {tx re0 : Nat → Int32} {n j : Nat} {Z w : Nat → Int32} (e : s_X7_readLink_re L tx re0 j = 10 + 1) : l_X7_link_1_r L tx re0 (n + 1) j Z w = l_X7_link_1_r L tx re0 n (j + 1) Z (upd w 23 ((w 23) ^^^ 1)) ∧ l_X7_link_1_pg L tx re0 (n + 1) j Z w = l_X7_link_1_pg L tx re0 n (j + 1) Z (upd w 23 ((w 23) ^^^ 1)) ∧ l_X7_link_1_Z L tx re0 (n + 1) j Z w = l_X7_link_1_Z L tx re0 n (j + 1) Z (upd w 23 ((w 23) ^^^ 1)) := by
  rw [show (10 : Int32) + 1 = 11 from rfl] at e
  refine ⟨?_, ?_, ?_⟩
  · rw [l_X7_link_1_r, e, if_pos (by decide), if_neg (by decide), if_neg (by decide)]
  · rw [l_X7_link_1_pg, e, if_pos (by decide), if_neg (by decide), if_neg (by decide)]
  · rw [l_X7_link_1_Z, e, if_pos (by decide), if_neg (by decide), if_neg (by decide)]
theorem lk_20 {L : Nat} {tx re0 : Nat → Int32} {n j : Nat} {Z w : Nat → Int32} (e : s_X7_readLink_re L tx re0 j = 20 + 0) : l_X7_link_1_r L tx re0 (n + 1) j Z w = l_X7_link_1_r L tx re0 n (j + 1) Z (upd w 32 ((w 32) ^^^ 1)) ∧ l_X7_link_1_pg L tx re0 (n + 1) j Z w = l_X7_link_1_pg L tx re0 n (j + 1) Z (upd w 32 ((w 32) ^^^ 1)) ∧ l_X7_link_1_Z L tx re0 (n + 1) j Z w = l_X7_link_1_Z L tx re0 n (j + 1) Z (upd w 32 ((w 32) ^^^ 1)) := by
  rw [show (20 : Int32) + 0 = 20 from rfl] at e
  refine ⟨?_, ?_, ?_⟩
  · rw [l_X7_link_1_r, e, if_pos (by decide), if_pos (by decide), if_pos rfl]
  · rw [l_X7_link_1_pg, e, if_pos (by decide), if_pos (by decide), if_pos rfl]
  · rw [l_X7_link_1_Z, e, if_pos (by decide), if_pos (by decide), if_pos rfl]
theorem lk_21 {L : Nat} {tx re0 : Nat → Int32} {n j : Nat} {Z w : Nat → Int32} (e : s_X7_readLink_re L tx re0 j = 20 + 1) : l_X7_link_1_r L tx re0 (n + 1) j Z w = l_X7_link_1_r L tx re0 n (j + 1) Z (upd w 33 ((w 33) ^^^ 1)) ∧ l_X7_link_1_pg L tx re0 (n + 1) j Z w = l_X7_link_1_pg L tx re0 n (j + 1) Z (upd w 33 ((w 33) ^^^ 1)) ∧ l_X7_link_1_Z L tx re0 (n + 1) j Z w = l_X7_link_1_Z L tx re0 n (j + 1) Z (upd w 33 ((w 33) ^^^ 1)) := by
  rw [show (20 : Int32) + 1 = 21 from rfl] at e
  refine ⟨?_, ?_, ?_⟩
  · rw [l_X7_link_1_r, e, if_pos (by decide), if_pos (by decide), if_neg (by decide)]
  · rw [l_X7_link_1_pg, e, if_pos (by decide), if_pos (by decide), if_neg (by decide)]
  · rw [l_X7_link_1_Z, e, if_pos (by decide), if_pos (by decide), if_neg (by decide)]
theorem lk_n {L : Nat} {tx re0 : Nat → Int32} {n j : Nat} {Z w : Nat → Int32} {x : Int32} (e : s_X7_readLink_re L tx re0 j = x) (hx : ¬ 10 ≤ x) : l_X7_link_1_r L tx re0 (n + 1) j Z w = l_X7_link_1_r L tx re0 n (j + 1) (s_X7_goFor_Z Z w x) (s_X7_goFor_f Z w x) ∧ l_X7_link_1_pg L tx re0 (n + 1) j Z w = l_X7_link_1_pg L tx re0 n (j + 1) (s_X7_goFor_Z Z w x) (s_X7_goFor_f Z w x) ∧ l_X7_link_1_Z L tx re0 (n + 1) j Z w = l_X7_link_1_Z L tx re0 n (j + 1) (s_X7_goFor_Z Z w x) (s_X7_goFor_f Z w x) := by
  refine ⟨?_, ?_, ?_⟩
  · rw [l_X7_link_1_r, e, if_neg hx]
  · rw [l_X7_link_1_pg, e, if_neg hx]
  · rw [l_X7_link_1_Z, e, if_neg hx]
theorem lk_ik (L : Nat) (tx re ik : Nat → Int32) : ∀ (n j : Nat) (Z w : Nat → Int32), l_X7_link_1_ik L tx re ik n j Z w = upd (upd ik 0 0) 1 0
  | 0, j, Z, w => by rw [l_X7_link_1_ik]
  | n + 1, j, Z, w => by
    rw [l_X7_link_1_ik]
    repeat' split
    all_goals exact lk_ik L tx re ik n _ _ _
/-- one figure behind d or w is one step -/
theorem lo_d {sg : Nat → Int32} {n p : Nat} {g : Nat → Nat → Int32} (h : sg p = 100) (hn : ¬ sg (p + 1) = 100 ∧ ¬ sg (p + 1) = 119) : l_X3_layOut_1_g sg (n + 1 + 1) p 0 g = l_X3_layOut_1_g sg n ((p + 1) + 1) 0 (if (sg (p + 1)) - 48 = 0 then kg (s_X0_turnDemand_X (g 0)) (g 1) (g 2) (g 3) (g 4) else kg (g 0) (s_X0_turnDemand_X (g 1)) (g 2) (g 3) (g 4)) := by
  rw [l_X3_layOut_1_g, if_neg (by decide), if_neg (by decide), if_pos h, h, l_X3_layOut_1_g, if_pos rfl]
  by_cases c : (sg (p + 1)) - 48 = 0
  · rw [if_pos c, if_neg hn.1, if_neg hn.2, if_pos c]
  · rw [if_neg c, if_neg hn.1, if_neg hn.2, if_neg c]
theorem lo_w {sg : Nat → Int32} {n p : Nat} {g : Nat → Nat → Int32} (h : sg p = 119) (hn : ¬ sg (p + 1) = 100 ∧ ¬ sg (p + 1) = 119) : l_X3_layOut_1_g sg (n + 1 + 1) p 0 g = l_X3_layOut_1_g sg n ((p + 1) + 1) 0 (if (sg (p + 1)) - 48 = 0 then kg (g 0) (g 1) (s_X4_turnOver_Y (g 2)) (g 3) (g 4) else kg (g 0) (g 1) (g 2) (s_X4_turnOver_Y (g 3)) (g 4)) := by
  rw [l_X3_layOut_1_g, if_neg (by decide), if_neg (by decide), if_neg (by rw [h]; decide), if_pos h, h, l_X3_layOut_1_g, if_neg (by decide), if_pos rfl]
  by_cases c : (sg (p + 1)) - 48 = 0
  · rw [if_pos c, if_neg hn.1, if_neg hn.2, if_pos c]
  · rw [if_neg c, if_neg hn.1, if_neg hn.2, if_neg c]
theorem lo_n {sg : Nat → Int32} {n p : Nat} {g : Nat → Nat → Int32} (h1 : ¬ sg p = 100) (h2 : ¬ sg p = 119) : l_X3_layOut_1_g sg (n + 1) p 0 g = l_X3_layOut_1_g sg n (p + 1) 0 (s_X5_run_g g ((sg p) - 48)) := by
  rw [l_X3_layOut_1_g, if_neg (by decide), if_neg (by decide), if_neg h1, if_neg h2]
def lkOk (L : Nat) (tx re0 : Nat → Int32) (n m : Nat) (Zc w : Nat → Int32) (g1 : Nat → Nat → Int32) : Prop := l_X7_link_1_r L tx re0 n m Zc w = g1 4 0 ∧ rW g1 (l_X7_link_1_pg L tx re0 n m Zc w) ∧ l_X7_link_1_Z L tx re0 n m Zc w 10 = 0 ∧ ∀ k, k = 2 ∨ k = 13 → l_X7_link_1_Z L tx re0 n m Zc w k = Zc k
theorem lkOk_eq {L : Nat} {tx re0 : Nat → Int32} {n m n1 m1 : Nat} {Zc w Z1 w1 : Nat → Int32} {g1 : Nat → Nat → Int32} (h : lkOk L tx re0 n1 m1 Z1 w1 g1) (e : l_X7_link_1_r L tx re0 n m Zc w = l_X7_link_1_r L tx re0 n1 m1 Z1 w1 ∧ l_X7_link_1_pg L tx re0 n m Zc w = l_X7_link_1_pg L tx re0 n1 m1 Z1 w1 ∧ l_X7_link_1_Z L tx re0 n m Zc w = l_X7_link_1_Z L tx re0 n1 m1 Z1 w1) (hz : ∀ k, k = 2 ∨ k = 13 → Z1 k = Zc k) : lkOk L tx re0 n m Zc w g1 := by
  obtain ⟨a, b, c, d⟩ := h
  obtain ⟨e1, e2, e3⟩ := e
  exact ⟨by rw [e1]; exact a, by rw [e2]; exact b, by rw [e3]; exact c, fun k hk => by rw [e3, d k hk]; exact hz k hk⟩
theorem q_lnk {L : Nat} {sg tx re0 Z' : Nat → Int32} (hL : 7 ≤ L ∧ L ≤ 70) (ht : ∀ i, i < L → tx i = sg i) : ∀ (f i p m : Nat) (re : Nat → Int32) (K : Nat) (g : Nat → Nat → Int32) (Zc w : Nat → Int32), p ≤ L → L < p + f → m ≤ p → K ≤ 70 → l_X7_readLink_1_r L tx f i p m re = -9 → s_X7_readLink_re L tx re0 = l_X7_readLink_1_re L tx f i p m re → l_X7_readLink_1_Z Z' L tx f i p m re 6 = nI K → rW g w → nZ Zc → lkOk L tx re0 (K - m) m Zc w (l_X3_layOut_1_g sg (L - p) p 0 g)
  | 0, i, p, m, re, K, g, Zc, w, hp, hf, hm, hK, hr, he, hz, hw, hn => absurd hf (by omega)
  | f + 1, i, p, m, re, K, g, Zc, w, hp, hf, hm, hK, hr, he, hz, hw, hn => by
    rw [l_X7_readLink_1_r] at hr
    rw [l_X7_readLink_1_re] at he
    rw [l_X7_readLink_1_Z] at hz
    have no : ∀ p : Nat, p ≤ 100 → ¬ nI p = -9 := fun p hp q => absurd (nI_pos (n := p) (by omega)) (by rw [q]; decide)
    by_cases c1 : nI L ≤ nI p
    · rw [if_pos c1] at hz
      have e1 : m = K := (nI_eq (by omega) (by omega)).mp (show nI m = nI K from hz)
      have e2 : p = L := by
        have := (nI_leI (by omega) (by omega)).mp c1
        omega
      subst e1
      subst e2
      rw [Nat.sub_self, Nat.sub_self, l_X3_layOut_1_g]
      exact ⟨by rw [l_X7_link_1_r]; exact hw.2.2.2.2.1.1, by rw [l_X7_link_1_pg]; exact hw, by rw [l_X7_link_1_Z]; rfl, fun k hk => by rw [l_X7_link_1_Z, pk_un (by omega)]⟩
    · rw [if_neg c1] at hr he hz
      have hpl : p < L := knle_lt c1 (by omega) (by omega)
      have dig : kfig L tx (p + 1) 0 1 → ¬ sg (p + 1) = 100 ∧ ¬ sg (p + 1) = 119 := fun z => by
        have := (kdg_in (A := 0) (B := 1) rfl rfl (by decide)).mp z.2
        rw [ht (p + 1) z.1] at this
        exact kdg_ne this (by decide)
      by_cases c2 : tx p = 100
      · rw [if_pos c2] at hr he hz
        by_cases c3 : kfig L tx (p + 1) 0 1
        · rw [if_pos c3] at hr he hz
          have hp2 : p + 1 < L := c3.1
          obtain ⟨k, a, b, e⟩ := lZ_m Z' L tx hL.2 f (i + 1) ((p + 1) + 1) (m + 1) (upd re m (10 + ((tx (p + 1)) - 48))) (by omega) (by omega)
          have ek : K = k := (nI_eq (by omega) (by omega)).mp (hz.symm.trans e)
          have ev : s_X7_readLink_re L tx re0 m = 10 + ((tx (p + 1)) - 48) := by rw [he, lre_lt _ _ _ _ _ _ _ _ (by omega), pk_us]
          rw [show L - p = L - ((p + 1) + 1) + 1 + 1 by omega, lo_d ((ht p hpl).symm.trans c2) (dig c3), show K - m = K - (m + 1) + 1 by omega]
          rcases kfig01 c3 with e0 | e0
          · rw [e0] at ev
            rw [if_pos (show sg (p + 1) - 48 = 0 by rw [← ht (p + 1) hp2]; exact e0)]
            exact lkOk_eq (q_lnk hL ht f (i + 1) ((p + 1) + 1) (m + 1) _ K _ _ _ (by omega) (by omega) (by omega) hK hr he hz (rW_dem0 hw) hn) (lk_10 ev) (fun _ _ => rfl)
          · rw [e0] at ev
            rw [if_neg (show ¬ sg (p + 1) - 48 = 0 by rw [← ht (p + 1) hp2, e0]; decide)]
            exact lkOk_eq (q_lnk hL ht f (i + 1) ((p + 1) + 1) (m + 1) _ K _ _ _ (by omega) (by omega) (by omega) hK hr he hz (rW_dem1 hw) hn) (lk_11 ev) (fun _ _ => rfl)
        · rw [if_neg c3] at hr; exact absurd hr (no _ (by omega))
      · rw [if_neg c2] at hr he hz
        by_cases c4 : tx p = 119
        · rw [if_pos c4] at hr he hz
          by_cases c3 : kfig L tx (p + 1) 0 1
          · rw [if_pos c3] at hr he hz
            have hp2 : p + 1 < L := c3.1
            obtain ⟨k, a, b, e⟩ := lZ_m Z' L tx hL.2 f (i + 1) ((p + 1) + 1) (m + 1) (upd re m (20 + ((tx (p + 1)) - 48))) (by omega) (by omega)
            have ek : K = k := (nI_eq (by omega) (by omega)).mp (hz.symm.trans e)
            have ev : s_X7_readLink_re L tx re0 m = 20 + ((tx (p + 1)) - 48) := by rw [he, lre_lt _ _ _ _ _ _ _ _ (by omega), pk_us]
            rw [show L - p = L - ((p + 1) + 1) + 1 + 1 by omega, lo_w ((ht p hpl).symm.trans c4) (dig c3), show K - m = K - (m + 1) + 1 by omega]
            rcases kfig01 c3 with e0 | e0
            · rw [e0] at ev
              rw [if_pos (show sg (p + 1) - 48 = 0 by rw [← ht (p + 1) hp2]; exact e0)]
              exact lkOk_eq (q_lnk hL ht f (i + 1) ((p + 1) + 1) (m + 1) _ K _ _ _ (by omega) (by omega) (by omega) hK hr he hz (rW_turn2 hw) hn) (lk_20 ev) (fun _ _ => rfl)
            · rw [e0] at ev
              rw [if_neg (show ¬ sg (p + 1) - 48 = 0 by rw [← ht (p + 1) hp2, e0]; decide)]
              exact lkOk_eq (q_lnk hL ht f (i + 1) ((p + 1) + 1) (m + 1) _ K _ _ _ (by omega) (by omega) (by omega) hK hr he hz (rW_turn3 hw) hn) (lk_21 ev) (fun _ _ => rfl)
          · rw [if_neg c3] at hr; exact absurd hr (no _ (by omega))
        · rw [if_neg c4] at hr he hz
          by_cases c3 : kfig L tx p 1 9
          · rw [if_pos c3] at hr he hz
            obtain ⟨k, a, b, e⟩ := lZ_m Z' L tx hL.2 f (i + 1) (p + 1) (m + 1) (upd re m ((tx p) - 48)) (by omega) (by omega)
            have ek : K = k := (nI_eq (by omega) (by omega)).mp (hz.symm.trans e)
            have ev : s_X7_readLink_re L tx re0 m = (tx p) - 48 := by rw [he, lre_lt _ _ _ _ _ _ _ _ (by omega), pk_us]
            rw [show L - p = L - (p + 1) + 1 by omega, lo_n (fun q => c2 ((ht p hpl).trans q)) (fun q => c4 ((ht p hpl).trans q)), show K - m = K - (m + 1) + 1 by omega, ← ht p hpl]
            obtain ⟨v, h1, h2, e0⟩ := kfig_val (M := 9) c3 (by decide) (by decide)
            have hx : ¬ 10 ≤ (tx p) - 48 := by rw [e0]; exact nI_ge (b := 10) (by omega) (by decide)
            have hr2 := rW_run hw hn ((tx p) - 48)
            exact lkOk_eq (q_lnk hL ht f (i + 1) (p + 1) (m + 1) _ K _ _ _ (by omega) (by omega) (by omega) hK hr he hz hr2.1 hr2.2) (lk_n ev hx) (fun k hk => zgoFor _ _ _ k (by omega) (by omega))
          · rw [if_neg c3] at hr; exact absurd hr (no _ (by omega))
theorem rl_head {L : Nat} {tx rp re : Nat → Int32} (h : r_X7_readLink L tx re = -9) : 7 ≤ L ∧ 0 ≤ (tx 2) - 48 ∧ 0 ≤ (tx 5) - 48 ∧ l_X7_readLink_1_r L tx (L + 1) 0 7 0 re = -9 ∧ s_X7_readLink_re L tx re = l_X7_readLink_1_re L tx (L + 1) 0 7 0 re ∧ (∀ Z, s_X7_readLink_Z Z L tx re = l_X7_readLink_1_Z Z L tx (L + 1) 0 7 0 re) ∧ s_X7_readLink_rp L tx rp re = kHdr tx rp := by
  unfold r_X7_readLink at h
  unfold s_X7_readLink_Z s_X7_readLink_re s_X7_readLink_rp
  have no : ∀ p : Nat, p ≤ 100 → ¬ nI p = -9 := fun p hp q => absurd (nI_pos (n := p) (by omega)) (by rw [q]; decide)
  by_cases c0 : nI L = 0
  · rw [if_pos c0] at h; exact absurd h (by decide)
  · rw [if_neg c0] at h
    by_cases c1 : tx 0 = 66
    · rw [if_pos c1] at h
      by_cases k0 : kfig L tx 1 1 9
      · rw [if_pos k0] at h
        by_cases k1 : kfig L tx (1 + 1) 1 9
        · rw [if_pos k1] at h
          by_cases k2 : kfig L tx ((1 + 1) + 1) 1 5
          · rw [if_pos k2] at h
            by_cases k3 : kfig L tx (((1 + 1) + 1) + 1) 1 9
            · rw [if_pos k3] at h
              by_cases k4 : kfig L tx ((((1 + 1) + 1) + 1) + 1) 1 9
              · rw [if_pos k4] at h
                by_cases k5 : kfig L tx (((((1 + 1) + 1) + 1) + 1) + 1) 1 5
                · rw [if_pos k5] at h
                  obtain ⟨v1, _, w1, x1⟩ := kfig_val (M := 9) k1 (by decide) (by decide)
                  obtain ⟨v4, _, w4, x4⟩ := kfig_val (M := 9) k4 (by decide) (by decide)
                  simp only [if_neg c0, if_pos c1, if_pos k0, if_pos k1, if_pos k2, if_pos k3, if_pos k4, if_pos k5]
                  exact ⟨by have := k5.1; omega, by rw [show (tx 2) - 48 = nI v1 from x1]; exact nI_pos' (by omega), by rw [show (tx 5) - 48 = nI v4 from x4]; exact nI_pos' (by omega), h, by first | trivial | rfl, by first | trivial | exact fun _ => trivial | exact fun _ => rfl, lrp L tx rp _ _ _ _ _⟩
                · rw [if_neg k5] at h; exact absurd h (no _ (by decide))
              · rw [if_neg k4] at h; exact absurd h (no _ (by decide))
            · rw [if_neg k3] at h; exact absurd h (no _ (by decide))
          · rw [if_neg k2] at h; exact absurd h (no _ (by decide))
        · rw [if_neg k1] at h; exact absurd h (no _ (by decide))
      · rw [if_neg k0] at h; exact absurd h (no _ (by decide))
    · rw [if_neg c1] at h; exact absurd h (by decide)
theorem st_link {n9 d L z : Nat} {pi : Nat → Nat} {sg ik tk en mo : Nat → Int32} {gN gS0 gS1 : Nat → Nat → Int32} {gB : Nat → Nat → Nat → Int32} {Z tx pg bk kp jk sa se sm : Nat → Int32} (h : rR n9 d L z pi sg ik tk en mo gN gS0 gS1 gB Z tx pg bk kp jk sa se sm) (rp re : Nat → Int32) : r_X6_link L sg gN = r_X7_link Z L tx rp re pg ∧ ∃ d1 : Nat, s_X6_link_ac (nI d) L sg = kc (nI d1) ∧ rR n9 d1 L z pi sg (s_X6_link_ik L sg ik) tk en mo (s_X6_link_gN L sg gN) gS0 gS1 gB (s_X7_link_Z Z L tx rp re pg) tx (s_X7_link_pg Z L tx rp re pg) bk kp (s_X7_link_ik Z L tx rp re pg jk) sa se sm := by
  have hh := h
  obtain ⟨a, b, c, e, ⟨f1, f2, f3⟩, hw, hB, ht, hk, hv⟩ := h
  have hq := q_fault c ht re
  unfold r_X6_link r_X7_link s_X6_link_ac s_X6_link_gN s_X6_link_ik s_X7_link_Z s_X7_link_pg s_X7_link_ik
  rw [hq]
  by_cases c9 : r_X7_readLink L tx re = -9
  · rw [if_pos c9, if_pos c9, if_pos c9, if_pos c9, if_pos c9, if_pos c9, if_pos c9, if_pos c9]
    obtain ⟨h7, h2, h5, g1, g2, g3, g4⟩ := rl_head (rp := rp) c9
    obtain ⟨K, k1, k2, ek⟩ := lZ_m (upd (upd Z 2 (nI L)) 0 0) L tx c (L + 1) 0 7 0 re (by omega) h7
    have hd := rW_lay (t := pg) (rW_head (sg := sg) (tx := tx) (rp := rp) gN (fun i hi => ht i (by omega)) (by rw [← ht 2 (by omega)]; exact h2) (by rw [← ht 5 (by omega)]; exact h5))
    have key := q_lnk ⟨h7, c⟩ ht (L + 1) 0 7 0 re K _ _ _ h7 (by omega) (by omega) (by omega) g1 g2 ek hd (nZ_lay (l_X7_readLink_1_Z (upd (upd Z 2 (nI L)) 0 0) L tx (L + 1) 0 7 0 re))
    have eK : (s_X7_readLink_Z (upd (upd Z 2 (nI L)) 0 0) L tx re 6).toNatClampNeg = K - 0 := by rw [g3, ek, nI_clamp (by omega), Nat.sub_zero]
    rw [eK, g4, g3, lk_ik]
    obtain ⟨u1, u2, u3, u4⟩ := key
    refine ⟨u1.symm, 0, rfl, a, by decide, c, e, ⟨?_, u3, ?_⟩, u2, ⟨hB.1, hB.2.1, hB.2.2.1, fun i hi => absurd hi (by omega)⟩, ht, ⟨Or.inl rfl, Or.inl rfl, rfl, rfl, hk.2.2.2.2.1, hk.2.2.2.2.2.1, fun q => absurd (show (0 : Int32) = 1 from q) (by decide), fun q => absurd (show (0 : Int32) = 1 from q) (by decide)⟩, hv⟩
    · rw [u4 2 (Or.inl rfl), pk_un (by decide), pk_un (by decide), pk_un (by decide), lZ_k _ _ _ _ (by decide) (by decide)]; rfl
    · rw [u4 13 (Or.inr rfl), pk_un (by decide), pk_un (by decide), pk_un (by decide), lZ_k _ _ _ _ (by decide) (by decide)]; exact f3
  · rw [if_neg c9, if_neg c9, if_neg c9, if_neg c9, if_neg c9, if_neg c9, if_neg c9, if_neg c9]
    refine ⟨rfl, d, rfl, rR_Z hh (fun k hk => ?_)⟩
    rw [sZ_k _ _ _ _ _ (by omega) (by omega)]
    rcases hk with rfl | rfl | rfl
    · exact f1.symm
    · rfl
    · rfl
theorem st_fault {n9 d L z : Nat} {pi : Nat → Nat} {sg ik tk en mo : Nat → Int32} {gN gS0 gS1 : Nat → Nat → Int32} {gB : Nat → Nat → Nat → Int32} {Z tx pg bk kp jk sa se sm : Nat → Int32} (h : rR n9 d L z pi sg ik tk en mo gN gS0 gS1 gB Z tx pg bk kp jk sa se sm) (re : Nat → Int32) : r_X3_faultPlace L sg = r_X7_readLink L tx re := q_fault h.2.2.1 h.2.2.2.2.2.2.2.1 re
