/-- an event as readLink writes it -/
def kEvOk (x : Int32) : Prop := (∃ v : Nat, 1 ≤ v ∧ v ≤ 9 ∧ x = nI v) ∨ x = 10 ∨ x = 11 ∨ x = 20 ∨ x = 21
theorem kfig_val {L : Nat} {tx : Nat → Int32} {p : Nat} {a b : Int64} {M : Nat} (h : kfig L tx p a b) (ha : 0 ≤ a) (hb : b.toInt = (M : Int)) : ∃ v : Nat, a.toInt ≤ v ∧ v ≤ M ∧ (tx p) - 48 = nI v := by
  have h2 := h.2
  obtain ⟨e1, e2⟩ := kin_of h2 ha hb
  refine ⟨((tx p) - 48).toNatClampNeg, ?_, e2, e1⟩
  rw [kin_iff] at h2
  split at h2
  · rename_i hh
    have a1 := Int64.le_iff_toInt_le.mp hh.1
    rw [Int32.toInt_toInt64] at a1
    have e3 : ((tx p) - 48).toNatClampNeg = ((tx p) - 48).toInt.toNat := rfl
    have a2 := Int64.le_iff_toInt_le.mp ha
    simp at a2
    omega
  · exact absurd rfl h2
theorem kfig01 {L : Nat} {tx : Nat → Int32} {p : Nat} (h : kfig L tx p 0 1) : (tx p) - 48 = 0 ∨ (tx p) - 48 = 1 := by
  obtain ⟨v, h1, h2, e⟩ := kfig_val (M := 1) h (by decide) (by decide)
  rw [e]
  rcases (show v = 0 ∨ v = 1 by omega) with rfl | rfl
  · exact Or.inl rfl
  · exact Or.inr rfl
theorem kfig19 {L : Nat} {tx : Nat → Int32} {p : Nat} (h : kfig L tx p 1 9) : kEvOk ((tx p) - 48) := by
  obtain ⟨v, h1, h2, e⟩ := kfig_val (M := 9) h (by decide) (by decide)
  exact Or.inl ⟨v, by simp at h1; omega, h2, e⟩
/-- how many events, and which -/
theorem krl_many (Z : Nat → Int32) (L : Nat) (tx : Nat → Int32) (hL : L ≤ 70) : ∀ (n j p m : Nat) (re : Nat → Int32), m ≤ p → p ≤ L → (∀ i, i < m → kEvOk (re i)) → ∃ k : Nat, k ≤ L ∧ l_X7_readLink_1_Z Z L tx n j p m re 6 = nI k ∧ ∀ i, i < k → kEvOk (l_X7_readLink_1_re L tx n j p m re i)
  | 0, j, p, m, re, hm, hp, he => ⟨m, by omega, rfl, he⟩
  | n + 1, j, p, m, re, hm, hp, he => by
    have up : ∀ x, kEvOk x → ∀ i, i < m + 1 → kEvOk (upd re m x i) := fun x hx i hi => by
      by_cases q : i = m
      · subst q; rw [pk_us]; exact hx
      · rw [pk_un q]; exact he i (by omega)
    rw [l_X7_readLink_1_Z, l_X7_readLink_1_re]
    by_cases c1 : nI L ≤ nI p
    · rw [if_pos c1, if_pos c1]; exact ⟨m, by omega, rfl, he⟩
    · rw [if_neg c1, if_neg c1]
      have hpl : p < L := knle_lt c1 (by omega) (by omega)
      by_cases c2 : tx p = 100
      · rw [if_pos c2, if_pos c2]
        by_cases c3 : kfig L tx (p + 1) 0 1
        · rw [if_pos c3, if_pos c3]
          refine krl_many Z L tx hL n (j + 1) _ (m + 1) _ (by omega) (by have := c3.1; omega) (up _ ?_)
          rcases kfig01 c3 with e | e <;> rw [e]
          · exact Or.inr (Or.inl rfl)
          · exact Or.inr (Or.inr (Or.inl rfl))
        · rw [if_neg c3, if_neg c3]; exact ⟨m, by omega, rfl, he⟩
      · rw [if_neg c2, if_neg c2]
        by_cases c2 : tx p = 119
        · rw [if_pos c2, if_pos c2]
          by_cases c3 : kfig L tx (p + 1) 0 1
          · rw [if_pos c3, if_pos c3]
            refine krl_many Z L tx hL n (j + 1) _ (m + 1) _ (by omega) (by have := c3.1; omega) (up _ ?_)
            rcases kfig01 c3 with e | e <;> rw [e]
            · exact Or.inr (Or.inr (Or.inr (Or.inl rfl)))
            · exact Or.inr (Or.inr (Or.inr (Or.inr rfl)))
          · rw [if_neg c3, if_neg c3]; exact ⟨m, by omega, rfl, he⟩
        · rw [if_neg c2, if_neg c2]
          by_cases c3 : kfig L tx p 1 9
          · rw [if_pos c3, if_pos c3]
            exact krl_many Z L tx hL n (j + 1) _ (m + 1) _ (by omega) (by have := c3.1; omega) (up _ (kfig19 c3))
          · rw [if_neg c3, if_neg c3]; exact ⟨m, by omega, rfl, he⟩
theorem krl {Z : Nat → Int32} {L : Nat} {tx re : Nat → Int32} (hL : L ≤ 70) (h : r_X7_readLink L tx re = -9) : ((s_X7_readLink_Z Z L tx re) 6).toNatClampNeg ≤ 70 ∧ ∀ i, i < ((s_X7_readLink_Z Z L tx re) 6).toNatClampNeg → kEvOk (s_X7_readLink_re L tx re i) := by
  unfold r_X7_readLink at h
  unfold s_X7_readLink_Z s_X7_readLink_re
  have no : ∀ p : Nat, p ≤ 100 → ¬ nI p = -9 := fun p hp q => absurd (nI_pos (n := p) (by omega)) (by rw [q]; decide)
  by_cases c0 : nI L = 0
  · rw [if_pos c0] at h; exact absurd h (by decide)
  · rw [if_neg c0] at h
    rw [if_neg c0, if_neg c0]
    by_cases c1 : tx 0 = 66
    · rw [if_pos c1] at h
      rw [if_pos c1, if_pos c1]
      by_cases k0 : kfig L tx 1 1 9
      · rw [if_pos k0] at h
        rw [if_pos k0, if_pos k0]
        by_cases k1 : kfig L tx (1 + 1) 1 9
        · rw [if_pos k1] at h
          rw [if_pos k1, if_pos k1]
          by_cases k2 : kfig L tx ((1 + 1) + 1) 1 5
          · rw [if_pos k2] at h
            rw [if_pos k2, if_pos k2]
            by_cases k3 : kfig L tx (((1 + 1) + 1) + 1) 1 9
            · rw [if_pos k3] at h
              rw [if_pos k3, if_pos k3]
              by_cases k4 : kfig L tx ((((1 + 1) + 1) + 1) + 1) 1 9
              · rw [if_pos k4] at h
                rw [if_pos k4, if_pos k4]
                by_cases k5 : kfig L tx (((((1 + 1) + 1) + 1) + 1) + 1) 1 5
                · rw [if_pos k5] at h
                  rw [if_pos k5, if_pos k5]
                  obtain ⟨k, hk, e, he⟩ := krl_many Z L tx hL (L + 1) 0 ((((((1 + 1) + 1) + 1) + 1) + 1) + 1) 0 re (by omega) (by have := k5.1; omega) (fun i hi => absurd hi (by omega))
                  rw [e, nI_clamp (by omega)]
                  exact ⟨by omega, he⟩
                · rw [if_neg k5] at h; exact absurd h (no _ (by decide))
              · rw [if_neg k4] at h; exact absurd h (no _ (by decide))
            · rw [if_neg k3] at h; exact absurd h (no _ (by decide))
          · rw [if_neg k2] at h; exact absurd h (no _ (by decide))
        · rw [if_neg k1] at h; exact absurd h (no _ (by decide))
      · rw [if_neg k0] at h; exact absurd h (no _ (by decide))
    · rw [if_neg c1] at h; exact absurd h (by decide)
theorem kev10 {x : Int32} (h : kEvOk x) (h1 : (10 : Int32) ≤ x) (h2 : ¬ (20 : Int32) ≤ x) (h3 : ¬ x - 10 = 0) : x - 10 = 1 := by
  rcases h with ⟨v, a, b, rfl⟩ | rfl | rfl | rfl | rfl
  · have := (nI_leI (a := 10) (b := v) (by decide) (by omega)).mp h1
    omega
  · exact absurd rfl h3
  · rfl
  · exact absurd (by decide) h2
  · exact absurd (by decide) h2
theorem kev20 {x : Int32} (h : kEvOk x) (h1 : (20 : Int32) ≤ x) (h3 : ¬ x = 20) : x = 21 := by
  rcases h with ⟨v, a, b, rfl⟩ | rfl | rfl | rfl | rfl
  · have := (nI_leI (a := 20) (b := v) (by decide) (by omega)).mp h1
    omega
  · exact absurd h1 (by decide)
  · exact absurd h1 (by decide)
  · exact absurd rfl h3
  · rfl
theorem zseen (Z : Nat → Int32) (kk : Nat) (pg tr sa se sm : Nat → Int32) (p0 : Int32) (k : Nat) (h : k < 18) : s_X7_isSeen_Z Z kk pg tr sa se sm p0 k = Z k := by
  unfold s_X7_isSeen_Z
  repeat' split
  all_goals (rw [zgoFor _ _ _ _ (by omega) (by omega), pk_un (by omega), pk_un (by omega), pk_un (by omega)])

def l_X7_link_1_r (L : Nat) (tx : Nat → Int32) (re : Nat → Int32) : Nat → Nat → (Nat → Int32) → (Nat → Int32) → Int32
  | 0, j1, Z_1, pg_1 => pg_1 52
  | n1 + 1, j1, Z_1, pg_1 => if 10 ≤ s_X7_readLink_re L tx re j1 then (if 20 ≤ s_X7_readLink_re L tx re j1 then (if s_X7_readLink_re L tx re j1 = 20 then (l_X7_link_1_r L tx re n1 (j1 + 1) Z_1 (upd pg_1 32 ((pg_1 32) ^^^ 1))) else l_X7_link_1_r L tx re n1 (j1 + 1) Z_1 (upd pg_1 33 ((pg_1 33) ^^^ 1))) else if (s_X7_readLink_re L tx re j1) - 10 = 0 then (l_X7_link_1_r L tx re n1 (j1 + 1) Z_1 (upd pg_1 7 ((pg_1 7) ^^^ 1))) else l_X7_link_1_r L tx re n1 (j1 + 1) Z_1 (upd pg_1 23 ((pg_1 23) ^^^ 1))) else l_X7_link_1_r L tx re n1 (j1 + 1) (s_X7_goFor_Z Z_1 pg_1 (s_X7_readLink_re L tx re j1)) (s_X7_goFor_f Z_1 pg_1 (s_X7_readLink_re L tx re j1))
def r_X7_link (Z : Nat → Int32) (L : Nat) (tx : Nat → Int32) (rp : Nat → Int32) (re : Nat → Int32) (pg : Nat → Int32) : Int32 := if (r_X7_readLink L tx re) = (-9) then (l_X7_link_1_r L tx re (((s_X7_readLink_Z (upd (upd Z 2 (nI L)) 0 0) L tx re) 6).toNatClampNeg) 0 (upd (upd (upd (s_X7_readLink_Z (upd (upd Z 2 (nI L)) 0 0) L tx re) 18 (-9)) 20 0) 21 6) (s_X7_lay_t (s_X7_readLink_rp L tx rp re) pg)) else (-3)
def l_X7_link_1_Z (L : Nat) (tx : Nat → Int32) (re : Nat → Int32) : Nat → Nat → (Nat → Int32) → (Nat → Int32) → Nat → Int32
  | 0, j1, Z_1, pg_1 => upd Z_1 10 0
  | n1 + 1, j1, Z_1, pg_1 => if 10 ≤ s_X7_readLink_re L tx re j1 then (if 20 ≤ s_X7_readLink_re L tx re j1 then (if s_X7_readLink_re L tx re j1 = 20 then (l_X7_link_1_Z L tx re n1 (j1 + 1) Z_1 (upd pg_1 32 ((pg_1 32) ^^^ 1))) else l_X7_link_1_Z L tx re n1 (j1 + 1) Z_1 (upd pg_1 33 ((pg_1 33) ^^^ 1))) else if (s_X7_readLink_re L tx re j1) - 10 = 0 then (l_X7_link_1_Z L tx re n1 (j1 + 1) Z_1 (upd pg_1 7 ((pg_1 7) ^^^ 1))) else l_X7_link_1_Z L tx re n1 (j1 + 1) Z_1 (upd pg_1 23 ((pg_1 23) ^^^ 1))) else l_X7_link_1_Z L tx re n1 (j1 + 1) (s_X7_goFor_Z Z_1 pg_1 (s_X7_readLink_re L tx re j1)) (s_X7_goFor_f Z_1 pg_1 (s_X7_readLink_re L tx re j1))
def s_X7_link_Z (Z : Nat → Int32) (L : Nat) (tx : Nat → Int32) (rp : Nat → Int32) (re : Nat → Int32) (pg : Nat → Int32) : Nat → Int32 := if (r_X7_readLink L tx re) = (-9) then (l_X7_link_1_Z L tx re (((s_X7_readLink_Z (upd (upd Z 2 (nI L)) 0 0) L tx re) 6).toNatClampNeg) 0 (upd (upd (upd (s_X7_readLink_Z (upd (upd Z 2 (nI L)) 0 0) L tx re) 18 (-9)) 20 0) 21 6) (s_X7_lay_t (s_X7_readLink_rp L tx rp re) pg)) else s_X7_readLink_Z (upd (upd Z 2 (nI L)) 0 0) L tx re
def l_X7_link_1_rp (L : Nat) (tx : Nat → Int32) (rp : Nat → Int32) (re : Nat → Int32) : Nat → Nat → (Nat → Int32) → (Nat → Int32) → Nat → Int32
  | 0, j1, Z_1, pg_1 => s_X7_readLink_rp L tx rp re
  | n1 + 1, j1, Z_1, pg_1 => if 10 ≤ s_X7_readLink_re L tx re j1 then (if 20 ≤ s_X7_readLink_re L tx re j1 then (if s_X7_readLink_re L tx re j1 = 20 then (l_X7_link_1_rp L tx rp re n1 (j1 + 1) Z_1 (upd pg_1 32 ((pg_1 32) ^^^ 1))) else l_X7_link_1_rp L tx rp re n1 (j1 + 1) Z_1 (upd pg_1 33 ((pg_1 33) ^^^ 1))) else if (s_X7_readLink_re L tx re j1) - 10 = 0 then (l_X7_link_1_rp L tx rp re n1 (j1 + 1) Z_1 (upd pg_1 7 ((pg_1 7) ^^^ 1))) else l_X7_link_1_rp L tx rp re n1 (j1 + 1) Z_1 (upd pg_1 23 ((pg_1 23) ^^^ 1))) else l_X7_link_1_rp L tx rp re n1 (j1 + 1) (s_X7_goFor_Z Z_1 pg_1 (s_X7_readLink_re L tx re j1)) (s_X7_goFor_f Z_1 pg_1 (s_X7_readLink_re L tx re j1))
def s_X7_link_rp (Z : Nat → Int32) (L : Nat) (tx : Nat → Int32) (rp : Nat → Int32) (re : Nat → Int32) (pg : Nat → Int32) : Nat → Int32 := if (r_X7_readLink L tx re) = (-9) then (l_X7_link_1_rp L tx rp re (((s_X7_readLink_Z (upd (upd Z 2 (nI L)) 0 0) L tx re) 6).toNatClampNeg) 0 (upd (upd (upd (s_X7_readLink_Z (upd (upd Z 2 (nI L)) 0 0) L tx re) 18 (-9)) 20 0) 21 6) (s_X7_lay_t (s_X7_readLink_rp L tx rp re) pg)) else s_X7_readLink_rp L tx rp re
def l_X7_link_1_re (L : Nat) (tx : Nat → Int32) (re : Nat → Int32) : Nat → Nat → (Nat → Int32) → (Nat → Int32) → Nat → Int32
  | 0, j1, Z_1, pg_1 => s_X7_readLink_re L tx re
  | n1 + 1, j1, Z_1, pg_1 => if 10 ≤ s_X7_readLink_re L tx re j1 then (if 20 ≤ s_X7_readLink_re L tx re j1 then (if s_X7_readLink_re L tx re j1 = 20 then (l_X7_link_1_re L tx re n1 (j1 + 1) Z_1 (upd pg_1 32 ((pg_1 32) ^^^ 1))) else l_X7_link_1_re L tx re n1 (j1 + 1) Z_1 (upd pg_1 33 ((pg_1 33) ^^^ 1))) else if (s_X7_readLink_re L tx re j1) - 10 = 0 then (l_X7_link_1_re L tx re n1 (j1 + 1) Z_1 (upd pg_1 7 ((pg_1 7) ^^^ 1))) else l_X7_link_1_re L tx re n1 (j1 + 1) Z_1 (upd pg_1 23 ((pg_1 23) ^^^ 1))) else l_X7_link_1_re L tx re n1 (j1 + 1) (s_X7_goFor_Z Z_1 pg_1 (s_X7_readLink_re L tx re j1)) (s_X7_goFor_f Z_1 pg_1 (s_X7_readLink_re L tx re j1))
def s_X7_link_re (Z : Nat → Int32) (L : Nat) (tx : Nat → Int32) (rp : Nat → Int32) (re : Nat → Int32) (pg : Nat → Int32) : Nat → Int32 := if (r_X7_readLink L tx re) = (-9) then (l_X7_link_1_re L tx re (((s_X7_readLink_Z (upd (upd Z 2 (nI L)) 0 0) L tx re) 6).toNatClampNeg) 0 (upd (upd (upd (s_X7_readLink_Z (upd (upd Z 2 (nI L)) 0 0) L tx re) 18 (-9)) 20 0) 21 6) (s_X7_lay_t (s_X7_readLink_rp L tx rp re) pg)) else s_X7_readLink_re L tx re
def l_X7_link_1_pg (L : Nat) (tx : Nat → Int32) (re : Nat → Int32) : Nat → Nat → (Nat → Int32) → (Nat → Int32) → Nat → Int32
  | 0, j1, Z_1, pg_1 => pg_1
  | n1 + 1, j1, Z_1, pg_1 => if 10 ≤ s_X7_readLink_re L tx re j1 then (if 20 ≤ s_X7_readLink_re L tx re j1 then (if s_X7_readLink_re L tx re j1 = 20 then (l_X7_link_1_pg L tx re n1 (j1 + 1) Z_1 (upd pg_1 32 ((pg_1 32) ^^^ 1))) else l_X7_link_1_pg L tx re n1 (j1 + 1) Z_1 (upd pg_1 33 ((pg_1 33) ^^^ 1))) else if (s_X7_readLink_re L tx re j1) - 10 = 0 then (l_X7_link_1_pg L tx re n1 (j1 + 1) Z_1 (upd pg_1 7 ((pg_1 7) ^^^ 1))) else l_X7_link_1_pg L tx re n1 (j1 + 1) Z_1 (upd pg_1 23 ((pg_1 23) ^^^ 1))) else l_X7_link_1_pg L tx re n1 (j1 + 1) (s_X7_goFor_Z Z_1 pg_1 (s_X7_readLink_re L tx re j1)) (s_X7_goFor_f Z_1 pg_1 (s_X7_readLink_re L tx re j1))
def s_X7_link_pg (Z : Nat → Int32) (L : Nat) (tx : Nat → Int32) (rp : Nat → Int32) (re : Nat → Int32) (pg : Nat → Int32) : Nat → Int32 := if (r_X7_readLink L tx re) = (-9) then (l_X7_link_1_pg L tx re (((s_X7_readLink_Z (upd (upd Z 2 (nI L)) 0 0) L tx re) 6).toNatClampNeg) 0 (upd (upd (upd (s_X7_readLink_Z (upd (upd Z 2 (nI L)) 0 0) L tx re) 18 (-9)) 20 0) 21 6) (s_X7_lay_t (s_X7_readLink_rp L tx rp re) pg)) else pg
def l_X7_link_1_tr (L : Nat) (tx : Nat → Int32) (rp : Nat → Int32) (re : Nat → Int32) (pg : Nat → Int32) (tr : Nat → Int32) : Nat → Nat → (Nat → Int32) → (Nat → Int32) → Nat → Int32
  | 0, j1, Z_1, pg_1 => s_X7_lay_t (s_X7_lay_t (s_X7_readLink_rp L tx rp re) pg) tr
  | n1 + 1, j1, Z_1, pg_1 => if 10 ≤ s_X7_readLink_re L tx re j1 then (if 20 ≤ s_X7_readLink_re L tx re j1 then (if s_X7_readLink_re L tx re j1 = 20 then (l_X7_link_1_tr L tx rp re pg tr n1 (j1 + 1) Z_1 (upd pg_1 32 ((pg_1 32) ^^^ 1))) else l_X7_link_1_tr L tx rp re pg tr n1 (j1 + 1) Z_1 (upd pg_1 33 ((pg_1 33) ^^^ 1))) else if (s_X7_readLink_re L tx re j1) - 10 = 0 then (l_X7_link_1_tr L tx rp re pg tr n1 (j1 + 1) Z_1 (upd pg_1 7 ((pg_1 7) ^^^ 1))) else l_X7_link_1_tr L tx rp re pg tr n1 (j1 + 1) Z_1 (upd pg_1 23 ((pg_1 23) ^^^ 1))) else l_X7_link_1_tr L tx rp re pg tr n1 (j1 + 1) (s_X7_goFor_Z Z_1 pg_1 (s_X7_readLink_re L tx re j1)) (s_X7_goFor_f Z_1 pg_1 (s_X7_readLink_re L tx re j1))
def s_X7_link_tr (Z : Nat → Int32) (L : Nat) (tx : Nat → Int32) (rp : Nat → Int32) (re : Nat → Int32) (pg : Nat → Int32) (tr : Nat → Int32) : Nat → Int32 := if (r_X7_readLink L tx re) = (-9) then (l_X7_link_1_tr L tx rp re pg tr (((s_X7_readLink_Z (upd (upd Z 2 (nI L)) 0 0) L tx re) 6).toNatClampNeg) 0 (upd (upd (upd (s_X7_readLink_Z (upd (upd Z 2 (nI L)) 0 0) L tx re) 18 (-9)) 20 0) 21 6) (s_X7_lay_t (s_X7_readLink_rp L tx rp re) pg)) else tr
def l_X7_link_1_ik (L : Nat) (tx : Nat → Int32) (re : Nat → Int32) (ik : Nat → Int32) : Nat → Nat → (Nat → Int32) → (Nat → Int32) → Nat → Int32
  | 0, j1, Z_1, pg_1 => upd (upd ik 0 0) 1 0
  | n1 + 1, j1, Z_1, pg_1 => if 10 ≤ s_X7_readLink_re L tx re j1 then (if 20 ≤ s_X7_readLink_re L tx re j1 then (if s_X7_readLink_re L tx re j1 = 20 then (l_X7_link_1_ik L tx re ik n1 (j1 + 1) Z_1 (upd pg_1 32 ((pg_1 32) ^^^ 1))) else l_X7_link_1_ik L tx re ik n1 (j1 + 1) Z_1 (upd pg_1 33 ((pg_1 33) ^^^ 1))) else if (s_X7_readLink_re L tx re j1) - 10 = 0 then (l_X7_link_1_ik L tx re ik n1 (j1 + 1) Z_1 (upd pg_1 7 ((pg_1 7) ^^^ 1))) else l_X7_link_1_ik L tx re ik n1 (j1 + 1) Z_1 (upd pg_1 23 ((pg_1 23) ^^^ 1))) else l_X7_link_1_ik L tx re ik n1 (j1 + 1) (s_X7_goFor_Z Z_1 pg_1 (s_X7_readLink_re L tx re j1)) (s_X7_goFor_f Z_1 pg_1 (s_X7_readLink_re L tx re j1))
def s_X7_link_ik (Z : Nat → Int32) (L : Nat) (tx : Nat → Int32) (rp : Nat → Int32) (re : Nat → Int32) (pg : Nat → Int32) (ik : Nat → Int32) : Nat → Int32 := if (r_X7_readLink L tx re) = (-9) then (l_X7_link_1_ik L tx re ik (((s_X7_readLink_Z (upd (upd Z 2 (nI L)) 0 0) L tx re) 6).toNatClampNeg) 0 (upd (upd (upd (s_X7_readLink_Z (upd (upd Z 2 (nI L)) 0 0) L tx re) 18 (-9)) 20 0) 21 6) (s_X7_lay_t (s_X7_readLink_rp L tx rp re) pg)) else ik
set_option maxHeartbeats 4000000 in
set_option maxRecDepth 100000 in
theorem c_X7_link (l : Launch) (G : kG) (Z : Nat → Int32) (L : Nat) (sd : Int64) (h0 : Nat) (q1 : Nat) (q2 : Nat) (q3 : Nat) (q4 : Nat) (q5 : Nat) (q6 : Nat) (q7 : Nat) (q8 : Nat) (q9 : Nat) (q10 : Nat) (q11 : Nat) (tx : Nat → Int32) (rp : Nat → Int32) (re : Nat → Int32) (pg : Nat → Int32) (tr : Nat → Int32) (ik : Nat → Int32) (hL : L ≤ 70) : cG l G yX7_link cX7_link 3 (some .int) 6 [.ref h0] ([(h0, .inr (7, cM (upd Z 2 (nI L)) q1 q2 q3 q4 q5 q6 q7 q8 q9 q10 q11 sd)), (q1, .inl (G.2.1, 70, .inl tx)), (q2, .inl (G.2.1, 55, .inl rp)), (q3, .inl (G.2.1, 70, .inl re)), (q4, .inl (G.2.1, 55, .inl pg)), (q5, .inl (G.2.1, 55, .inl tr)), (q8, .inl (G.2.2.1, 2, .inl ik))]) (qI G (fun (r : Int32) (u : ((Nat → Int32) × (Nat → Int32) × (Nat → Int32) × (Nat → Int32) × (Nat → Int32) × (Nat → Int32))) => r = r_X7_link Z L tx rp re pg ∧ u.1 = s_X7_link_Z Z L tx rp re pg ∧ u.2.1 = s_X7_link_rp Z L tx rp re pg ∧ u.2.2.1 = s_X7_link_re Z L tx rp re pg ∧ u.2.2.2.1 = s_X7_link_pg Z L tx rp re pg ∧ u.2.2.2.2.1 = s_X7_link_tr Z L tx rp re pg tr ∧ u.2.2.2.2.2 = s_X7_link_ik Z L tx rp re pg ik) (fun u => [(h0, .inr (7, cM u.1 q1 q2 q3 q4 q5 q6 q7 q8 q9 q10 q11 sd)), (q1, .inl (G.2.1, 70, .inl tx)), (q2, .inl (G.2.1, 55, .inl u.2.1)), (q3, .inl (G.2.1, 70, .inl u.2.2.1)), (q4, .inl (G.2.1, 55, .inl u.2.2.2.1)), (q5, .inl (G.2.1, 55, .inl u.2.2.2.2.1)), (q8, .inl (G.2.2.1, 2, .inl u.2.2.2.2.2))])) := by
  refine kintro (by decide) (Nat.le_of_ble_eq_true rfl) ?_
  intro p e s m args below meth c A ls kx hK hP hD hS hA hl
  have kx : kX p s m args meth c cX7_link 3 (some .int) RX7 := kx
  have hx := kx.1
  have hb := kx.2.1
  have hown := kx.2.2.2.2.1
  have ht := kx.2.2.2.2.2.2
  have hl : lv_has ls 3 [(0, .ref h0)] := hl
  refine lv_aload_n hx hb dX7_link_0 rfl (lv_at hl 0 rfl) ?_
  refine lv_iconst (v := 0) hx hb dX7_link_1 (by decide) ?_
  refine va_put (ci := 7) (v := .int 0) (ty := .int) (C := RX7) (T := TX7) (N := 22) hx hb ht inX7 tyX7 tyX7_ok nmX7 hown hK.1 hP hD hS 0 rfl rfl 0 (by decide) (ht _ q_666) (fun _ h9 => h9) rfl (by decide +kernel) rfl rfl (Nat.le_of_ble_eq_true rfl) dX7_link_2 (fun H1 locs1 hP1 hD1 hS1 => ?_)
  have hP2 : va_P G.1 vwCl ([(h0, .inr (7, cM (upd (upd Z 2 (nI L)) 0 0) q1 q2 q3 q4 q5 q6 q7 q8 q9 q10 q11 sd)), (q1, .inl (G.2.1, 70, .inl tx)), (q2, .inl (G.2.1, 55, .inl rp)), (q3, .inl (G.2.1, 70, .inl re)), (q4, .inl (G.2.1, 55, .inl pg)), (q5, .inl (G.2.1, 55, .inl tr)), (q8, .inl (G.2.2.1, 2, .inl ik))]) H1 := hP1
  have hD3 : va_D A ([(h0, .inr (7, cM (upd (upd Z 2 (nI L)) 0 0) q1 q2 q3 q4 q5 q6 q7 q8 q9 q10 q11 sd)), (q1, .inl (G.2.1, 70, .inl tx)), (q2, .inl (G.2.1, 55, .inl rp)), (q3, .inl (G.2.1, 70, .inl re)), (q4, .inl (G.2.1, 55, .inl pg)), (q5, .inl (G.2.1, 55, .inl tr)), (q8, .inl (G.2.2.1, 2, .inl ik))]) := hD1
  refine lv_aload_n hx hb dX7_link_5 rfl (lv_at hl 0 rfl) ?_
  refine k_calli (kRunV (As := []) (rest := []) kx (c_X7_readLink l G (upd (upd Z 2 (nI L)) 0 0) L sd h0 q1 q2 q3 q4 q5 q6 q7 q8 q9 q10 q11 tx rp re hL) q_752 q_749 q_36 q_751 q_13 nX7_readLink ⟨Nat.le_of_ble_eq_true rfl, Nat.le_of_ble_eq_true rfl⟩ hK hP2 hD3 (kCtx_places _ _ [0, 1, 2, 3] rfl rfl) 0 7 rfl rfl rfl rfl hl.1 (Nat.le_of_ble_eq_true rfl) dX7_link_6 ⟨Nat.zero_le _, Nat.zero_le _⟩) hP2 hD3 hS1 hA (kCtx_places _ _ [0, 1, 2, 3] rfl rfl) (fun _ => rfl) (fun r1 u H4 locs4 hw hP4 hD4 hS4 => ?_)
  obtain ⟨F2, F3, F4⟩ := u
  obtain ⟨hr1, hF2, hF3, hF4⟩ := hw
  have hr1 : r_X7_readLink L tx re = r1 := (show r1 = r_X7_readLink L tx re from hr1).symm
  have hF2 : s_X7_readLink_Z (upd (upd Z 2 (nI L)) 0 0) L tx re = F2 := (show F2 = s_X7_readLink_Z (upd (upd Z 2 (nI L)) 0 0) L tx re from hF2).symm
  have hF3 : s_X7_readLink_rp L tx rp re = F3 := (show F3 = s_X7_readLink_rp L tx rp re from hF3).symm
  have hF4 : s_X7_readLink_re L tx re = F4 := (show F4 = s_X7_readLink_re L tx re from hF4).symm
  have hP5 : va_P G.1 vwCl ([(h0, .inr (7, cM F2 q1 q2 q3 q4 q5 q6 q7 q8 q9 q10 q11 sd)), (q1, .inl (G.2.1, 70, .inl tx)), (q2, .inl (G.2.1, 55, .inl F3)), (q3, .inl (G.2.1, 70, .inl F4)), (q4, .inl (G.2.1, 55, .inl pg)), (q5, .inl (G.2.1, 55, .inl tr)), (q8, .inl (G.2.2.1, 2, .inl ik))]) H4 := hP4
  have hD6 : va_D A ([(h0, .inr (7, cM F2 q1 q2 q3 q4 q5 q6 q7 q8 q9 q10 q11 sd)), (q1, .inl (G.2.1, 70, .inl tx)), (q2, .inl (G.2.1, 55, .inl F3)), (q3, .inl (G.2.1, 70, .inl F4)), (q4, .inl (G.2.1, 55, .inl pg)), (q5, .inl (G.2.1, 55, .inl tr)), (q8, .inl (G.2.2.1, 2, .inl ik))]) := hD4
  refine lv_bipush (v := (-9)) hx hb dX7_link_9 (by decide) ?_
  refine lv_icmp_eq (x := r1) (y := (-9)) (tgt := 17) hx hb dX7_link_11 (by decide) (fun (c5 : r1 = (-9)) => ?_) (fun (c5 : ¬ (r1 = (-9))) => ?_)
  · skip
    have hrl := krl (Z := upd (upd Z 2 (nI L)) 0 0) hL (hr1.trans c5)
    have hrm := hrl.1
    refine lv_aload_n hx hb dX7_link_17 rfl (lv_at hl 0 rfl) ?_
    refine va_get (ci := 7) (v := .ref q2) (C := RX7) (T := TX7) (N := 22) hx hb ht inX7 hown hK.1 hP5 0 rfl rfl 4 (by decide) (ht _ q_670) (fun _ h9 => h9) rfl dX7_link_18 ?_
    refine lv_aload_n hx hb dX7_link_21 rfl (lv_at hl 0 rfl) ?_
    refine va_get (ci := 7) (v := .ref q4) (C := RX7) (T := TX7) (N := 22) hx hb ht inX7 hown hK.1 hP5 0 rfl rfl 7 (by decide) (ht _ q_673) (fun _ h9 => h9) rfl dX7_link_22 ?_
    refine k_callv (kRunS (As := [.ref q2, .ref q4]) (rest := []) kx (c_X7_lay l G F3 pg q2 q4) q_770 q_768 q_36 q_769 nX7_lay ⟨Nat.le_of_ble_eq_true rfl, Nat.le_of_ble_eq_true rfl⟩ hK hP5 hD6 (kCtx_places _ _ [2, 4] rfl rfl) rfl hl.1 (Nat.le_of_ble_eq_true rfl) dX7_link_25 ⟨Nat.zero_le _, Nat.zero_le _⟩) hP5 hD6 hS4 hA (kCtx_places _ _ [2, 4] rfl rfl) (fun _ => rfl) (fun F7 H7 locs7 hw hP7 hD7 hS7 => ?_)
    have hF7 : s_X7_lay_t F3 pg = F7 := (show F7 = s_X7_lay_t F3 pg from hw).symm
    have hP8 : va_P G.1 vwCl ([(h0, .inr (7, cM F2 q1 q2 q3 q4 q5 q6 q7 q8 q9 q10 q11 sd)), (q1, .inl (G.2.1, 70, .inl tx)), (q2, .inl (G.2.1, 55, .inl F3)), (q3, .inl (G.2.1, 70, .inl F4)), (q4, .inl (G.2.1, 55, .inl F7)), (q5, .inl (G.2.1, 55, .inl tr)), (q8, .inl (G.2.2.1, 2, .inl ik))]) H7 := hP7
    have hD9 : va_D A ([(h0, .inr (7, cM F2 q1 q2 q3 q4 q5 q6 q7 q8 q9 q10 q11 sd)), (q1, .inl (G.2.1, 70, .inl tx)), (q2, .inl (G.2.1, 55, .inl F3)), (q3, .inl (G.2.1, 70, .inl F4)), (q4, .inl (G.2.1, 55, .inl F7)), (q5, .inl (G.2.1, 55, .inl tr)), (q8, .inl (G.2.2.1, 2, .inl ik))]) := hD7
    refine lv_aload_n hx hb dX7_link_28 rfl (lv_at hl 0 rfl) ?_
    refine k_callv (kRunV (As := []) (rest := []) kx (c_X7_layTrial l G F2 sd h0 q1 q2 q3 q4 q5 q6 q7 q8 q9 q10 q11 F7 tr) q_774 q_771 q_36 q_773 q_16 nX7_layTrial ⟨Nat.le_of_ble_eq_true rfl, Nat.le_of_ble_eq_true rfl⟩ hK hP8 hD9 (kCtx_places _ _ [0, 4, 5] rfl rfl) 0 7 rfl rfl rfl rfl hl.1 (Nat.le_of_ble_eq_true rfl) dX7_link_29 ⟨Nat.zero_le _, Nat.zero_le _⟩) hP8 hD9 hS7 hA (kCtx_places _ _ [0, 4, 5] rfl rfl) (fun _ => rfl) (fun _ H10 locs10 hw hP10 hD10 hS10 => ?_)
    have hP11 : va_P G.1 vwCl ([(h0, .inr (7, cM (upd (upd (upd F2 18 (-9)) 20 0) 21 6) q1 q2 q3 q4 q5 q6 q7 q8 q9 q10 q11 sd)), (q1, .inl (G.2.1, 70, .inl tx)), (q2, .inl (G.2.1, 55, .inl F3)), (q3, .inl (G.2.1, 70, .inl F4)), (q4, .inl (G.2.1, 55, .inl F7)), (q5, .inl (G.2.1, 55, .inl (s_X7_lay_t F7 tr))), (q8, .inl (G.2.2.1, 2, .inl ik))]) H10 := hP10
    have hD12 : va_D A ([(h0, .inr (7, cM (upd (upd (upd F2 18 (-9)) 20 0) 21 6) q1 q2 q3 q4 q5 q6 q7 q8 q9 q10 q11 sd)), (q1, .inl (G.2.1, 70, .inl tx)), (q2, .inl (G.2.1, 55, .inl F3)), (q3, .inl (G.2.1, 70, .inl F4)), (q4, .inl (G.2.1, 55, .inl F7)), (q5, .inl (G.2.1, 55, .inl (s_X7_lay_t F7 tr))), (q8, .inl (G.2.2.1, 2, .inl ik))]) := hD10
    refine lv_iconst (v := 0) hx hb dX7_link_32 (by decide) ?_
    refine lv_istore_n (lv' := [(1, .int 0), (0, .ref h0)]) hx hb dX7_link_33 rfl hl (by decide) rfl (fun ls13 hl13 => ?_)
    subst hF2
    subst hF3
    subst hF4
    subst hr1
    subst hF7
    have lp1 : ∀ (n1 j1 : Nat) (Z_1 : Nat → Int32) (pg_1 : Nat → Int32), j1 + n1 = ((s_X7_readLink_Z (upd (upd Z 2 (nI L)) 0 0) L tx re) 6).toNatClampNeg → (hr_1 : r_X7_link Z L tx rp re pg = l_X7_link_1_r L tx re n1 j1 Z_1 pg_1) → (hZ_1 : s_X7_link_Z Z L tx rp re pg = l_X7_link_1_Z L tx re n1 j1 Z_1 pg_1) → (hrp_1 : s_X7_link_rp Z L tx rp re pg = l_X7_link_1_rp L tx rp re n1 j1 Z_1 pg_1) → (hre_1 : s_X7_link_re Z L tx rp re pg = l_X7_link_1_re L tx re n1 j1 Z_1 pg_1) → (hpg_1 : s_X7_link_pg Z L tx rp re pg = l_X7_link_1_pg L tx re n1 j1 Z_1 pg_1) → (htr_1 : s_X7_link_tr Z L tx rp re pg tr = l_X7_link_1_tr L tx rp re pg tr n1 j1 Z_1 pg_1) → (hik_1 : s_X7_link_ik Z L tx rp re pg ik = l_X7_link_1_ik L tx re ik n1 j1 Z_1 pg_1) → (hz1 : Z_1 6 = (s_X7_readLink_Z (upd (upd Z 2 (nI L)) 0 0) L tx re) 6) → ∀ (H : Heap) (locs : List Loc) (ls : Array Slot), va_P G.1 vwCl ([(h0, .inr (7, cM Z_1 q1 q2 q3 q4 q5 q6 q7 q8 q9 q10 q11 sd)), (q1, .inl (G.2.1, 70, .inl tx)), (q2, .inl (G.2.1, 55, .inl (s_X7_readLink_rp L tx rp re))), (q3, .inl (G.2.1, 70, .inl (s_X7_readLink_re L tx re))), (q4, .inl (G.2.1, 55, .inl pg_1)), (q5, .inl (G.2.1, 55, .inl (s_X7_lay_t (s_X7_lay_t (s_X7_readLink_rp L tx rp re) pg) tr))), (q8, .inl (G.2.2.1, 2, .inl ik))]) H → va_D A ([(h0, .inr (7, cM Z_1 q1 q2 q3 q4 q5 q6 q7 q8 q9 q10 q11 sd)), (q1, .inl (G.2.1, 70, .inl tx)), (q2, .inl (G.2.1, 55, .inl (s_X7_readLink_rp L tx rp re))), (q3, .inl (G.2.1, 70, .inl (s_X7_readLink_re L tx re))), (q4, .inl (G.2.1, 55, .inl pg_1)), (q5, .inl (G.2.1, 55, .inl (s_X7_lay_t (s_X7_lay_t (s_X7_readLink_rp L tx rp re) pg) tr))), (q8, .inl (G.2.2.1, 2, .inl ik))]) → va_S A s.heap H locs → lv_has ls 3 [(0, .ref h0), (1, .int (nI j1))] → W p l e (kr 6) s m args below meth c H locs 0 0 (MQ below (qI G (fun (r : Int32) (u : ((Nat → Int32) × (Nat → Int32) × (Nat → Int32) × (Nat → Int32) × (Nat → Int32) × (Nat → Int32))) => r = r_X7_link Z L tx rp re pg ∧ u.1 = s_X7_link_Z Z L tx rp re pg ∧ u.2.1 = s_X7_link_rp Z L tx rp re pg ∧ u.2.2.1 = s_X7_link_re Z L tx rp re pg ∧ u.2.2.2.1 = s_X7_link_pg Z L tx rp re pg ∧ u.2.2.2.2.1 = s_X7_link_tr Z L tx rp re pg tr ∧ u.2.2.2.2.2 = s_X7_link_ik Z L tx rp re pg ik) (fun u => [(h0, .inr (7, cM u.1 q1 q2 q3 q4 q5 q6 q7 q8 q9 q10 q11 sd)), (q1, .inl (G.2.1, 70, .inl tx)), (q2, .inl (G.2.1, 55, .inl u.2.1)), (q3, .inl (G.2.1, 70, .inl u.2.2.1)), (q4, .inl (G.2.1, 55, .inl u.2.2.2.1)), (q5, .inl (G.2.1, 55, .inl u.2.2.2.2.1)), (q8, .inl (G.2.2.1, 2, .inl u.2.2.2.2.2))]) A) args s 0 0 A) (F0 m 34 ls []) := by
      intro n1
      induction n1 with
      | zero =>
        intro j1 Z_1 pg_1 hj1 hr_1 hZ_1 hrp_1 hre_1 hpg_1 htr_1 hik_1 hz1 H14 locs14 ls14 hP14 hD14 hS14 hl14
        refine lv_iload_n hx hb dX7_link_34 rfl (lv_at hl14 1 rfl) ?_
        refine lv_aload_n hx hb dX7_link_35 rfl (lv_at hl14 0 rfl) ?_
        refine va_get (ci := 7) (v := .int (Z_1 6)) (C := RX7) (T := TX7) (N := 22) hx hb ht inX7 hown hK.1 hP14 0 rfl rfl 6 (by decide) (ht _ q_672) (fun _ h9 => h9) rfl dX7_link_36 ?_
        refine lv_icmp_ge (x := nI j1) (y := Z_1 6) (tgt := 117) hx hb dX7_link_39 (by decide) (fun (c9 : Z_1 6 ≤ nI j1) => ?_) (fun (c9 : ¬ (Z_1 6 ≤ nI j1)) => absurd (by rw [hz1]; exact krun_z hj1) c9)
        refine lv_aload_n hx hb dX7_link_117 rfl (lv_at hl14 0 rfl) ?_
        refine lv_iconst (v := 0) hx hb dX7_link_118 (by decide) ?_
        refine va_put (ci := 7) (v := .int 0) (ty := .int) (C := RX7) (T := TX7) (N := 22) hx hb ht inX7 tyX7 tyX7_ok nmX7 hown hK.1 hP14 hD14 hS14 0 rfl rfl 10 (by decide) (ht _ q_676) (fun _ h9 => h9) rfl (by decide +kernel) rfl rfl (Nat.le_of_ble_eq_true rfl) dX7_link_119 (fun H15 locs15 hP15 hD15 hS15 => ?_)
        have hP16 : va_P G.1 vwCl ([(h0, .inr (7, cM (upd Z_1 10 0) q1 q2 q3 q4 q5 q6 q7 q8 q9 q10 q11 sd)), (q1, .inl (G.2.1, 70, .inl tx)), (q2, .inl (G.2.1, 55, .inl (s_X7_readLink_rp L tx rp re))), (q3, .inl (G.2.1, 70, .inl (s_X7_readLink_re L tx re))), (q4, .inl (G.2.1, 55, .inl pg_1)), (q5, .inl (G.2.1, 55, .inl (s_X7_lay_t (s_X7_lay_t (s_X7_readLink_rp L tx rp re) pg) tr))), (q8, .inl (G.2.2.1, 2, .inl ik))]) H15 := hP15
        have hD17 : va_D A ([(h0, .inr (7, cM (upd Z_1 10 0) q1 q2 q3 q4 q5 q6 q7 q8 q9 q10 q11 sd)), (q1, .inl (G.2.1, 70, .inl tx)), (q2, .inl (G.2.1, 55, .inl (s_X7_readLink_rp L tx rp re))), (q3, .inl (G.2.1, 70, .inl (s_X7_readLink_re L tx re))), (q4, .inl (G.2.1, 55, .inl pg_1)), (q5, .inl (G.2.1, 55, .inl (s_X7_lay_t (s_X7_lay_t (s_X7_readLink_rp L tx rp re) pg) tr))), (q8, .inl (G.2.2.1, 2, .inl ik))]) := hD15
        refine lv_aload_n hx hb dX7_link_122 rfl (lv_at hl14 0 rfl) ?_
        refine va_get (ci := 7) (v := .ref q8) (C := RX7) (T := TX7) (N := 22) hx hb ht inX7 hown hK.1 hP16 0 rfl rfl 12 (by decide) (ht _ q_678) (fun _ h9 => h9) rfl dX7_link_123 ?_
        refine lv_iconst (v := 0) hx hb dX7_link_126 (by decide) ?_
        refine lv_iconst (v := 0) hx hb dX7_link_127 (by decide) ?_
        refine k_zast kx hK hP16 hD17 hS15 6 rfl 0 rfl (by decide) (by decide) rfl dX7_link_128 (fun H18 locs18 hP18 hD18 hS18 => ?_)
        have hP19 : va_P G.1 vwCl ([(h0, .inr (7, cM (upd Z_1 10 0) q1 q2 q3 q4 q5 q6 q7 q8 q9 q10 q11 sd)), (q1, .inl (G.2.1, 70, .inl tx)), (q2, .inl (G.2.1, 55, .inl (s_X7_readLink_rp L tx rp re))), (q3, .inl (G.2.1, 70, .inl (s_X7_readLink_re L tx re))), (q4, .inl (G.2.1, 55, .inl pg_1)), (q5, .inl (G.2.1, 55, .inl (s_X7_lay_t (s_X7_lay_t (s_X7_readLink_rp L tx rp re) pg) tr))), (q8, .inl (G.2.2.1, 2, .inl (upd ik 0 0)))]) H18 := hP18
        have hD20 : va_D A ([(h0, .inr (7, cM (upd Z_1 10 0) q1 q2 q3 q4 q5 q6 q7 q8 q9 q10 q11 sd)), (q1, .inl (G.2.1, 70, .inl tx)), (q2, .inl (G.2.1, 55, .inl (s_X7_readLink_rp L tx rp re))), (q3, .inl (G.2.1, 70, .inl (s_X7_readLink_re L tx re))), (q4, .inl (G.2.1, 55, .inl pg_1)), (q5, .inl (G.2.1, 55, .inl (s_X7_lay_t (s_X7_lay_t (s_X7_readLink_rp L tx rp re) pg) tr))), (q8, .inl (G.2.2.1, 2, .inl (upd ik 0 0)))]) := hD18
        refine lv_aload_n hx hb dX7_link_129 rfl (lv_at hl14 0 rfl) ?_
        refine va_get (ci := 7) (v := .ref q8) (C := RX7) (T := TX7) (N := 22) hx hb ht inX7 hown hK.1 hP19 0 rfl rfl 12 (by decide) (ht _ q_678) (fun _ h9 => h9) rfl dX7_link_130 ?_
        refine lv_iconst (v := 1) hx hb dX7_link_133 (by decide) ?_
        refine lv_iconst (v := 0) hx hb dX7_link_134 (by decide) ?_
        refine k_zast kx hK hP19 hD20 hS18 6 rfl 1 rfl (by decide) (by decide) rfl dX7_link_135 (fun H21 locs21 hP21 hD21 hS21 => ?_)
        have hP22 : va_P G.1 vwCl ([(h0, .inr (7, cM (upd Z_1 10 0) q1 q2 q3 q4 q5 q6 q7 q8 q9 q10 q11 sd)), (q1, .inl (G.2.1, 70, .inl tx)), (q2, .inl (G.2.1, 55, .inl (s_X7_readLink_rp L tx rp re))), (q3, .inl (G.2.1, 70, .inl (s_X7_readLink_re L tx re))), (q4, .inl (G.2.1, 55, .inl pg_1)), (q5, .inl (G.2.1, 55, .inl (s_X7_lay_t (s_X7_lay_t (s_X7_readLink_rp L tx rp re) pg) tr))), (q8, .inl (G.2.2.1, 2, .inl (upd (upd ik 0 0) 1 0)))]) H21 := hP21
        have hD23 : va_D A ([(h0, .inr (7, cM (upd Z_1 10 0) q1 q2 q3 q4 q5 q6 q7 q8 q9 q10 q11 sd)), (q1, .inl (G.2.1, 70, .inl tx)), (q2, .inl (G.2.1, 55, .inl (s_X7_readLink_rp L tx rp re))), (q3, .inl (G.2.1, 70, .inl (s_X7_readLink_re L tx re))), (q4, .inl (G.2.1, 55, .inl pg_1)), (q5, .inl (G.2.1, 55, .inl (s_X7_lay_t (s_X7_lay_t (s_X7_readLink_rp L tx rp re) pg) tr))), (q8, .inl (G.2.2.1, 2, .inl (upd (upd ik 0 0) 1 0)))]) := hD21
        refine lv_aload_n hx hb dX7_link_136 rfl (lv_at hl14 0 rfl) ?_
        refine va_get (ci := 7) (v := .ref q4) (C := RX7) (T := TX7) (N := 22) hx hb ht inX7 hown hK.1 hP22 0 rfl rfl 7 (by decide) (ht _ q_673) (fun _ h9 => h9) rfl dX7_link_137 ?_
        refine lv_bipush (v := 52) hx hb dX7_link_140 (by decide) ?_
        refine k_iald (v := (pg_1 52)) kx hK hP22 4 rfl 52 rfl (by decide) (by decide) rfl dX7_link_142 ?_
        have er : r_X7_link Z L tx rp re pg = pg_1 52 := by rw [hr_1, l_X7_link_1_r]
        have e0 : s_X7_link_Z Z L tx rp re pg = upd Z_1 10 0 := by rw [hZ_1, l_X7_link_1_Z]
        have e1 : s_X7_link_rp Z L tx rp re pg = s_X7_readLink_rp L tx rp re := by rw [hrp_1, l_X7_link_1_rp]
        have e2 : s_X7_link_re Z L tx rp re pg = s_X7_readLink_re L tx re := by rw [hre_1, l_X7_link_1_re]
        have e3 : s_X7_link_pg Z L tx rp re pg = pg_1 := by rw [hpg_1, l_X7_link_1_pg]
        have e4 : s_X7_link_tr Z L tx rp re pg tr = s_X7_lay_t (s_X7_lay_t (s_X7_readLink_rp L tx rp re) pg) tr := by rw [htr_1, l_X7_link_1_tr]
        have e5 : s_X7_link_ik Z L tx rp re pg ik = upd (upd ik 0 0) 1 0 := by rw [hik_1, l_X7_link_1_ik]
        exact k_iret kx hK hP22 hD23 hS21 (u := (upd Z_1 10 0, s_X7_readLink_rp L tx rp re, s_X7_readLink_re L tx re, pg_1, s_X7_lay_t (s_X7_lay_t (s_X7_readLink_rp L tx rp re) pg) tr, upd (upd ik 0 0) 1 0)) rfl ⟨er.symm, e0.symm, e1.symm, e2.symm, e3.symm, e4.symm, e5.symm⟩ dX7_link_143
      | succ n1 ih1 =>
        intro j1 Z_1 pg_1 hj1 hr_1 hZ_1 hrp_1 hre_1 hpg_1 htr_1 hik_1 hz1 H14 locs14 ls14 hP14 hD14 hS14 hl14
        refine lv_iload_n hx hb dX7_link_34 rfl (lv_at hl14 1 rfl) ?_
        refine lv_aload_n hx hb dX7_link_35 rfl (lv_at hl14 0 rfl) ?_
        refine va_get (ci := 7) (v := .int (Z_1 6)) (C := RX7) (T := TX7) (N := 22) hx hb ht inX7 hown hK.1 hP14 0 rfl rfl 6 (by decide) (ht _ q_672) (fun _ h9 => h9) rfl dX7_link_36 ?_
        refine lv_icmp_ge (x := nI j1) (y := Z_1 6) (tgt := 117) hx hb dX7_link_39 (by decide) (fun (c10 : Z_1 6 ≤ nI j1) => absurd c10 (by rw [hz1]; exact krun_s hj1)) (fun (c10 : ¬ (Z_1 6 ≤ nI j1)) => ?_)
        refine lv_aload_n hx hb dX7_link_42 rfl (lv_at hl14 0 rfl) ?_
        refine va_get (ci := 7) (v := .ref q3) (C := RX7) (T := TX7) (N := 22) hx hb ht inX7 hown hK.1 hP14 0 rfl rfl 5 (by decide) (ht _ q_671) (fun _ h9 => h9) rfl dX7_link_43 ?_
        refine lv_iload_n hx hb dX7_link_46 rfl (lv_at hl14 1 rfl) ?_
        refine k_iald (v := (s_X7_readLink_re L tx re j1)) kx hK hP14 3 rfl j1 rfl (by omega) (by decide) rfl dX7_link_47 ?_
        refine lv_istore_n (lv' := [(2, .int (s_X7_readLink_re L tx re j1)), (0, .ref h0), (1, .int (nI j1))]) hx hb dX7_link_48 rfl hl14 (by decide) rfl (fun ls24 hl24 => ?_)
        refine lv_iload_n hx hb dX7_link_49 rfl (lv_at hl24 0 rfl) ?_
        refine lv_bipush (v := 10) hx hb dX7_link_50 (by decide) ?_
        refine lv_icmp_ge (x := s_X7_readLink_re L tx re j1) (y := 10) (tgt := 67) hx hb dX7_link_52 (by decide) (fun (c11 : 10 ≤ s_X7_readLink_re L tx re j1) => ?_) (fun (c11 : ¬ (10 ≤ s_X7_readLink_re L tx re j1)) => ?_)
        · skip
          refine lv_iload_n hx hb dX7_link_67 rfl (lv_at hl24 0 rfl) ?_
          refine lv_bipush (v := 20) hx hb dX7_link_68 (by decide) ?_
          refine lv_icmp_ge (x := s_X7_readLink_re L tx re j1) (y := 20) (tgt := 95) hx hb dX7_link_70 (by decide) (fun (c12 : 20 ≤ s_X7_readLink_re L tx re j1) => ?_) (fun (c12 : ¬ (20 ≤ s_X7_readLink_re L tx re j1)) => ?_)
          · skip
            refine lv_aload_n hx hb dX7_link_95 rfl (lv_at hl24 1 rfl) ?_
            refine va_get (ci := 7) (v := .ref q4) (C := RX7) (T := TX7) (N := 22) hx hb ht inX7 hown hK.1 hP14 0 rfl rfl 7 (by decide) (ht _ q_673) (fun _ h9 => h9) rfl dX7_link_96 ?_
            refine lv_bipush (v := 32) hx hb dX7_link_99 (by decide) ?_
            refine lv_iload_n hx hb dX7_link_101 rfl (lv_at hl24 0 rfl) ?_
            by_cases c13 : s_X7_readLink_re L tx re j1 = 20
            · skip
              refine k_top (y := 20) c13 ?_
              refine lv_iadd hx hb dX7_link_102 ?_
              refine k_top (y := 52) (by decide +kernel) ?_
              refine lv_bipush (v := 20) hx hb dX7_link_103 (by decide) ?_
              refine lv_isub hx hb dX7_link_105 ?_
              refine k_top (y := 32) (by decide +kernel) ?_
              refine lv_dup2_11 hx hb dX7_link_106 rfl rfl ?_
              refine k_iald (v := (pg_1 32)) kx hK hP14 4 rfl 32 rfl (by decide) (by decide) rfl dX7_link_107 ?_
              refine lv_iconst (v := 1) hx hb dX7_link_108 (by decide) ?_
              refine lv_ixor hx hb dX7_link_109 ?_
              refine k_iast kx hK hP14 hD14 hS14 4 rfl 32 rfl (by decide) (by decide) dX7_link_110 (fun H25 locs25 hP25 hD25 hS25 => ?_)
              have hP26 : va_P G.1 vwCl ([(h0, .inr (7, cM Z_1 q1 q2 q3 q4 q5 q6 q7 q8 q9 q10 q11 sd)), (q1, .inl (G.2.1, 70, .inl tx)), (q2, .inl (G.2.1, 55, .inl (s_X7_readLink_rp L tx rp re))), (q3, .inl (G.2.1, 70, .inl (s_X7_readLink_re L tx re))), (q4, .inl (G.2.1, 55, .inl (upd pg_1 32 ((pg_1 32) ^^^ 1)))), (q5, .inl (G.2.1, 55, .inl (s_X7_lay_t (s_X7_lay_t (s_X7_readLink_rp L tx rp re) pg) tr))), (q8, .inl (G.2.2.1, 2, .inl ik))]) H25 := hP25
              have hD27 : va_D A ([(h0, .inr (7, cM Z_1 q1 q2 q3 q4 q5 q6 q7 q8 q9 q10 q11 sd)), (q1, .inl (G.2.1, 70, .inl tx)), (q2, .inl (G.2.1, 55, .inl (s_X7_readLink_rp L tx rp re))), (q3, .inl (G.2.1, 70, .inl (s_X7_readLink_re L tx re))), (q4, .inl (G.2.1, 55, .inl (upd pg_1 32 ((pg_1 32) ^^^ 1)))), (q5, .inl (G.2.1, 55, .inl (s_X7_lay_t (s_X7_lay_t (s_X7_readLink_rp L tx rp re) pg) tr))), (q8, .inl (G.2.2.1, 2, .inl ik))]) := hD25
              refine lv_iinc (v := nI (j1 + 1)) (lv' := [(1, .int (nI (j1 + 1))), (2, .int (s_X7_readLink_re L tx re j1)), (0, .ref h0)]) hx hb dX7_link_111 hl24 (k := 2) rfl (nI_1 j1) (by decide) rfl (fun ls28 hl28 => ?_)
              refine lv_goto (tgt := 34) hx hb dX7_link_114 (by decide) ?_
              have gr : r_X7_link Z L tx rp re pg = l_X7_link_1_r L tx re n1 (j1 + 1) Z_1 (upd pg_1 32 ((pg_1 32) ^^^ 1)) := by rw [hr_1, l_X7_link_1_r, if_pos c11, if_pos c12, if_pos c13]
              have gZ : s_X7_link_Z Z L tx rp re pg = l_X7_link_1_Z L tx re n1 (j1 + 1) Z_1 (upd pg_1 32 ((pg_1 32) ^^^ 1)) := by rw [hZ_1, l_X7_link_1_Z, if_pos c11, if_pos c12, if_pos c13]
              have grp : s_X7_link_rp Z L tx rp re pg = l_X7_link_1_rp L tx rp re n1 (j1 + 1) Z_1 (upd pg_1 32 ((pg_1 32) ^^^ 1)) := by rw [hrp_1, l_X7_link_1_rp, if_pos c11, if_pos c12, if_pos c13]
              have gre : s_X7_link_re Z L tx rp re pg = l_X7_link_1_re L tx re n1 (j1 + 1) Z_1 (upd pg_1 32 ((pg_1 32) ^^^ 1)) := by rw [hre_1, l_X7_link_1_re, if_pos c11, if_pos c12, if_pos c13]
              have gpg : s_X7_link_pg Z L tx rp re pg = l_X7_link_1_pg L tx re n1 (j1 + 1) Z_1 (upd pg_1 32 ((pg_1 32) ^^^ 1)) := by rw [hpg_1, l_X7_link_1_pg, if_pos c11, if_pos c12, if_pos c13]
              have gtr : s_X7_link_tr Z L tx rp re pg tr = l_X7_link_1_tr L tx rp re pg tr n1 (j1 + 1) Z_1 (upd pg_1 32 ((pg_1 32) ^^^ 1)) := by rw [htr_1, l_X7_link_1_tr, if_pos c11, if_pos c12, if_pos c13]
              have gik : s_X7_link_ik Z L tx rp re pg ik = l_X7_link_1_ik L tx re ik n1 (j1 + 1) Z_1 (upd pg_1 32 ((pg_1 32) ^^^ 1)) := by rw [hik_1, l_X7_link_1_ik, if_pos c11, if_pos c12, if_pos c13]
              exact ih1 (j1 + 1) Z_1 (upd pg_1 32 ((pg_1 32) ^^^ 1)) (by omega) gr gZ grp gre gpg gtr gik hz1 _ _ _ hP26 hD27 hS25 (lv_sub hl28 [2, 0] rfl)
            · skip
              refine k_top (y := 21) (kev20 (hrl.2 _ (by omega)) c12 c13) ?_
              refine lv_iadd hx hb dX7_link_102 ?_
              refine k_top (y := 53) (by decide +kernel) ?_
              refine lv_bipush (v := 20) hx hb dX7_link_103 (by decide) ?_
              refine lv_isub hx hb dX7_link_105 ?_
              refine k_top (y := 33) (by decide +kernel) ?_
              refine lv_dup2_11 hx hb dX7_link_106 rfl rfl ?_
              refine k_iald (v := (pg_1 33)) kx hK hP14 4 rfl 33 rfl (by decide) (by decide) rfl dX7_link_107 ?_
              refine lv_iconst (v := 1) hx hb dX7_link_108 (by decide) ?_
              refine lv_ixor hx hb dX7_link_109 ?_
              refine k_iast kx hK hP14 hD14 hS14 4 rfl 33 rfl (by decide) (by decide) dX7_link_110 (fun H29 locs29 hP29 hD29 hS29 => ?_)
              have hP30 : va_P G.1 vwCl ([(h0, .inr (7, cM Z_1 q1 q2 q3 q4 q5 q6 q7 q8 q9 q10 q11 sd)), (q1, .inl (G.2.1, 70, .inl tx)), (q2, .inl (G.2.1, 55, .inl (s_X7_readLink_rp L tx rp re))), (q3, .inl (G.2.1, 70, .inl (s_X7_readLink_re L tx re))), (q4, .inl (G.2.1, 55, .inl (upd pg_1 33 ((pg_1 33) ^^^ 1)))), (q5, .inl (G.2.1, 55, .inl (s_X7_lay_t (s_X7_lay_t (s_X7_readLink_rp L tx rp re) pg) tr))), (q8, .inl (G.2.2.1, 2, .inl ik))]) H29 := hP29
              have hD31 : va_D A ([(h0, .inr (7, cM Z_1 q1 q2 q3 q4 q5 q6 q7 q8 q9 q10 q11 sd)), (q1, .inl (G.2.1, 70, .inl tx)), (q2, .inl (G.2.1, 55, .inl (s_X7_readLink_rp L tx rp re))), (q3, .inl (G.2.1, 70, .inl (s_X7_readLink_re L tx re))), (q4, .inl (G.2.1, 55, .inl (upd pg_1 33 ((pg_1 33) ^^^ 1)))), (q5, .inl (G.2.1, 55, .inl (s_X7_lay_t (s_X7_lay_t (s_X7_readLink_rp L tx rp re) pg) tr))), (q8, .inl (G.2.2.1, 2, .inl ik))]) := hD29
              refine lv_iinc (v := nI (j1 + 1)) (lv' := [(1, .int (nI (j1 + 1))), (2, .int (s_X7_readLink_re L tx re j1)), (0, .ref h0)]) hx hb dX7_link_111 hl24 (k := 2) rfl (nI_1 j1) (by decide) rfl (fun ls32 hl32 => ?_)
              refine lv_goto (tgt := 34) hx hb dX7_link_114 (by decide) ?_
              have gr : r_X7_link Z L tx rp re pg = l_X7_link_1_r L tx re n1 (j1 + 1) Z_1 (upd pg_1 33 ((pg_1 33) ^^^ 1)) := by rw [hr_1, l_X7_link_1_r, if_pos c11, if_pos c12, if_neg c13]
              have gZ : s_X7_link_Z Z L tx rp re pg = l_X7_link_1_Z L tx re n1 (j1 + 1) Z_1 (upd pg_1 33 ((pg_1 33) ^^^ 1)) := by rw [hZ_1, l_X7_link_1_Z, if_pos c11, if_pos c12, if_neg c13]
              have grp : s_X7_link_rp Z L tx rp re pg = l_X7_link_1_rp L tx rp re n1 (j1 + 1) Z_1 (upd pg_1 33 ((pg_1 33) ^^^ 1)) := by rw [hrp_1, l_X7_link_1_rp, if_pos c11, if_pos c12, if_neg c13]
              have gre : s_X7_link_re Z L tx rp re pg = l_X7_link_1_re L tx re n1 (j1 + 1) Z_1 (upd pg_1 33 ((pg_1 33) ^^^ 1)) := by rw [hre_1, l_X7_link_1_re, if_pos c11, if_pos c12, if_neg c13]
              have gpg : s_X7_link_pg Z L tx rp re pg = l_X7_link_1_pg L tx re n1 (j1 + 1) Z_1 (upd pg_1 33 ((pg_1 33) ^^^ 1)) := by rw [hpg_1, l_X7_link_1_pg, if_pos c11, if_pos c12, if_neg c13]
              have gtr : s_X7_link_tr Z L tx rp re pg tr = l_X7_link_1_tr L tx rp re pg tr n1 (j1 + 1) Z_1 (upd pg_1 33 ((pg_1 33) ^^^ 1)) := by rw [htr_1, l_X7_link_1_tr, if_pos c11, if_pos c12, if_neg c13]
              have gik : s_X7_link_ik Z L tx rp re pg ik = l_X7_link_1_ik L tx re ik n1 (j1 + 1) Z_1 (upd pg_1 33 ((pg_1 33) ^^^ 1)) := by rw [hik_1, l_X7_link_1_ik, if_pos c11, if_pos c12, if_neg c13]
              exact ih1 (j1 + 1) Z_1 (upd pg_1 33 ((pg_1 33) ^^^ 1)) (by omega) gr gZ grp gre gpg gtr gik hz1 _ _ _ hP30 hD31 hS29 (lv_sub hl32 [2, 0] rfl)
          · skip
            refine lv_aload_n hx hb dX7_link_73 rfl (lv_at hl24 1 rfl) ?_
            refine va_get (ci := 7) (v := .ref q4) (C := RX7) (T := TX7) (N := 22) hx hb ht inX7 hown hK.1 hP14 0 rfl rfl 7 (by decide) (ht _ q_673) (fun _ h9 => h9) rfl dX7_link_74 ?_
            refine lv_bipush (v := 16) hx hb dX7_link_77 (by decide) ?_
            refine lv_iload_n hx hb dX7_link_79 rfl (lv_at hl24 0 rfl) ?_
            refine lv_bipush (v := 10) hx hb dX7_link_80 (by decide) ?_
            refine lv_isub hx hb dX7_link_82 ?_
            by_cases c14 : (s_X7_readLink_re L tx re j1) - 10 = 0
            · skip
              refine k_top (y := 0) c14 ?_
              refine lv_imul hx hb dX7_link_83 ?_
              refine k_top (y := 0) (by decide +kernel) ?_
              refine lv_bipush (v := 7) hx hb dX7_link_84 (by decide) ?_
              refine lv_iadd hx hb dX7_link_86 ?_
              refine k_top (y := 7) (by decide +kernel) ?_
              refine lv_dup2_11 hx hb dX7_link_87 rfl rfl ?_
              refine k_iald (v := (pg_1 7)) kx hK hP14 4 rfl 7 rfl (by decide) (by decide) rfl dX7_link_88 ?_
              refine lv_iconst (v := 1) hx hb dX7_link_89 (by decide) ?_
              refine lv_ixor hx hb dX7_link_90 ?_
              refine k_iast kx hK hP14 hD14 hS14 4 rfl 7 rfl (by decide) (by decide) dX7_link_91 (fun H33 locs33 hP33 hD33 hS33 => ?_)
              have hP34 : va_P G.1 vwCl ([(h0, .inr (7, cM Z_1 q1 q2 q3 q4 q5 q6 q7 q8 q9 q10 q11 sd)), (q1, .inl (G.2.1, 70, .inl tx)), (q2, .inl (G.2.1, 55, .inl (s_X7_readLink_rp L tx rp re))), (q3, .inl (G.2.1, 70, .inl (s_X7_readLink_re L tx re))), (q4, .inl (G.2.1, 55, .inl (upd pg_1 7 ((pg_1 7) ^^^ 1)))), (q5, .inl (G.2.1, 55, .inl (s_X7_lay_t (s_X7_lay_t (s_X7_readLink_rp L tx rp re) pg) tr))), (q8, .inl (G.2.2.1, 2, .inl ik))]) H33 := hP33
              have hD35 : va_D A ([(h0, .inr (7, cM Z_1 q1 q2 q3 q4 q5 q6 q7 q8 q9 q10 q11 sd)), (q1, .inl (G.2.1, 70, .inl tx)), (q2, .inl (G.2.1, 55, .inl (s_X7_readLink_rp L tx rp re))), (q3, .inl (G.2.1, 70, .inl (s_X7_readLink_re L tx re))), (q4, .inl (G.2.1, 55, .inl (upd pg_1 7 ((pg_1 7) ^^^ 1)))), (q5, .inl (G.2.1, 55, .inl (s_X7_lay_t (s_X7_lay_t (s_X7_readLink_rp L tx rp re) pg) tr))), (q8, .inl (G.2.2.1, 2, .inl ik))]) := hD33
              refine lv_goto (tgt := 111) hx hb dX7_link_92 (by decide) ?_
              refine lv_iinc (v := nI (j1 + 1)) (lv' := [(1, .int (nI (j1 + 1))), (2, .int (s_X7_readLink_re L tx re j1)), (0, .ref h0)]) hx hb dX7_link_111 hl24 (k := 2) rfl (nI_1 j1) (by decide) rfl (fun ls36 hl36 => ?_)
              refine lv_goto (tgt := 34) hx hb dX7_link_114 (by decide) ?_
              have gr : r_X7_link Z L tx rp re pg = l_X7_link_1_r L tx re n1 (j1 + 1) Z_1 (upd pg_1 7 ((pg_1 7) ^^^ 1)) := by rw [hr_1, l_X7_link_1_r, if_pos c11, if_neg c12, if_pos c14]
              have gZ : s_X7_link_Z Z L tx rp re pg = l_X7_link_1_Z L tx re n1 (j1 + 1) Z_1 (upd pg_1 7 ((pg_1 7) ^^^ 1)) := by rw [hZ_1, l_X7_link_1_Z, if_pos c11, if_neg c12, if_pos c14]
              have grp : s_X7_link_rp Z L tx rp re pg = l_X7_link_1_rp L tx rp re n1 (j1 + 1) Z_1 (upd pg_1 7 ((pg_1 7) ^^^ 1)) := by rw [hrp_1, l_X7_link_1_rp, if_pos c11, if_neg c12, if_pos c14]
              have gre : s_X7_link_re Z L tx rp re pg = l_X7_link_1_re L tx re n1 (j1 + 1) Z_1 (upd pg_1 7 ((pg_1 7) ^^^ 1)) := by rw [hre_1, l_X7_link_1_re, if_pos c11, if_neg c12, if_pos c14]
              have gpg : s_X7_link_pg Z L tx rp re pg = l_X7_link_1_pg L tx re n1 (j1 + 1) Z_1 (upd pg_1 7 ((pg_1 7) ^^^ 1)) := by rw [hpg_1, l_X7_link_1_pg, if_pos c11, if_neg c12, if_pos c14]
              have gtr : s_X7_link_tr Z L tx rp re pg tr = l_X7_link_1_tr L tx rp re pg tr n1 (j1 + 1) Z_1 (upd pg_1 7 ((pg_1 7) ^^^ 1)) := by rw [htr_1, l_X7_link_1_tr, if_pos c11, if_neg c12, if_pos c14]
              have gik : s_X7_link_ik Z L tx rp re pg ik = l_X7_link_1_ik L tx re ik n1 (j1 + 1) Z_1 (upd pg_1 7 ((pg_1 7) ^^^ 1)) := by rw [hik_1, l_X7_link_1_ik, if_pos c11, if_neg c12, if_pos c14]
              exact ih1 (j1 + 1) Z_1 (upd pg_1 7 ((pg_1 7) ^^^ 1)) (by omega) gr gZ grp gre gpg gtr gik hz1 _ _ _ hP34 hD35 hS33 (lv_sub hl36 [2, 0] rfl)
            · skip
              refine k_top (y := 1) (kev10 (hrl.2 _ (by omega)) c11 c12 c14) ?_
              refine lv_imul hx hb dX7_link_83 ?_
              refine k_top (y := 16) (by decide +kernel) ?_
              refine lv_bipush (v := 7) hx hb dX7_link_84 (by decide) ?_
              refine lv_iadd hx hb dX7_link_86 ?_
              refine k_top (y := 23) (by decide +kernel) ?_
              refine lv_dup2_11 hx hb dX7_link_87 rfl rfl ?_
              refine k_iald (v := (pg_1 23)) kx hK hP14 4 rfl 23 rfl (by decide) (by decide) rfl dX7_link_88 ?_
              refine lv_iconst (v := 1) hx hb dX7_link_89 (by decide) ?_
              refine lv_ixor hx hb dX7_link_90 ?_
              refine k_iast kx hK hP14 hD14 hS14 4 rfl 23 rfl (by decide) (by decide) dX7_link_91 (fun H37 locs37 hP37 hD37 hS37 => ?_)
              have hP38 : va_P G.1 vwCl ([(h0, .inr (7, cM Z_1 q1 q2 q3 q4 q5 q6 q7 q8 q9 q10 q11 sd)), (q1, .inl (G.2.1, 70, .inl tx)), (q2, .inl (G.2.1, 55, .inl (s_X7_readLink_rp L tx rp re))), (q3, .inl (G.2.1, 70, .inl (s_X7_readLink_re L tx re))), (q4, .inl (G.2.1, 55, .inl (upd pg_1 23 ((pg_1 23) ^^^ 1)))), (q5, .inl (G.2.1, 55, .inl (s_X7_lay_t (s_X7_lay_t (s_X7_readLink_rp L tx rp re) pg) tr))), (q8, .inl (G.2.2.1, 2, .inl ik))]) H37 := hP37
              have hD39 : va_D A ([(h0, .inr (7, cM Z_1 q1 q2 q3 q4 q5 q6 q7 q8 q9 q10 q11 sd)), (q1, .inl (G.2.1, 70, .inl tx)), (q2, .inl (G.2.1, 55, .inl (s_X7_readLink_rp L tx rp re))), (q3, .inl (G.2.1, 70, .inl (s_X7_readLink_re L tx re))), (q4, .inl (G.2.1, 55, .inl (upd pg_1 23 ((pg_1 23) ^^^ 1)))), (q5, .inl (G.2.1, 55, .inl (s_X7_lay_t (s_X7_lay_t (s_X7_readLink_rp L tx rp re) pg) tr))), (q8, .inl (G.2.2.1, 2, .inl ik))]) := hD37
              refine lv_goto (tgt := 111) hx hb dX7_link_92 (by decide) ?_
              refine lv_iinc (v := nI (j1 + 1)) (lv' := [(1, .int (nI (j1 + 1))), (2, .int (s_X7_readLink_re L tx re j1)), (0, .ref h0)]) hx hb dX7_link_111 hl24 (k := 2) rfl (nI_1 j1) (by decide) rfl (fun ls40 hl40 => ?_)
              refine lv_goto (tgt := 34) hx hb dX7_link_114 (by decide) ?_
              have gr : r_X7_link Z L tx rp re pg = l_X7_link_1_r L tx re n1 (j1 + 1) Z_1 (upd pg_1 23 ((pg_1 23) ^^^ 1)) := by rw [hr_1, l_X7_link_1_r, if_pos c11, if_neg c12, if_neg c14]
              have gZ : s_X7_link_Z Z L tx rp re pg = l_X7_link_1_Z L tx re n1 (j1 + 1) Z_1 (upd pg_1 23 ((pg_1 23) ^^^ 1)) := by rw [hZ_1, l_X7_link_1_Z, if_pos c11, if_neg c12, if_neg c14]
              have grp : s_X7_link_rp Z L tx rp re pg = l_X7_link_1_rp L tx rp re n1 (j1 + 1) Z_1 (upd pg_1 23 ((pg_1 23) ^^^ 1)) := by rw [hrp_1, l_X7_link_1_rp, if_pos c11, if_neg c12, if_neg c14]
              have gre : s_X7_link_re Z L tx rp re pg = l_X7_link_1_re L tx re n1 (j1 + 1) Z_1 (upd pg_1 23 ((pg_1 23) ^^^ 1)) := by rw [hre_1, l_X7_link_1_re, if_pos c11, if_neg c12, if_neg c14]
              have gpg : s_X7_link_pg Z L tx rp re pg = l_X7_link_1_pg L tx re n1 (j1 + 1) Z_1 (upd pg_1 23 ((pg_1 23) ^^^ 1)) := by rw [hpg_1, l_X7_link_1_pg, if_pos c11, if_neg c12, if_neg c14]
              have gtr : s_X7_link_tr Z L tx rp re pg tr = l_X7_link_1_tr L tx rp re pg tr n1 (j1 + 1) Z_1 (upd pg_1 23 ((pg_1 23) ^^^ 1)) := by rw [htr_1, l_X7_link_1_tr, if_pos c11, if_neg c12, if_neg c14]
              have gik : s_X7_link_ik Z L tx rp re pg ik = l_X7_link_1_ik L tx re ik n1 (j1 + 1) Z_1 (upd pg_1 23 ((pg_1 23) ^^^ 1)) := by rw [hik_1, l_X7_link_1_ik, if_pos c11, if_neg c12, if_neg c14]
              exact ih1 (j1 + 1) Z_1 (upd pg_1 23 ((pg_1 23) ^^^ 1)) (by omega) gr gZ grp gre gpg gtr gik hz1 _ _ _ hP38 hD39 hS37 (lv_sub hl40 [2, 0] rfl)
        · skip
          refine lv_aload_n hx hb dX7_link_55 rfl (lv_at hl24 1 rfl) ?_
          refine lv_aload_n hx hb dX7_link_56 rfl (lv_at hl24 1 rfl) ?_
          refine va_get (ci := 7) (v := .ref q4) (C := RX7) (T := TX7) (N := 22) hx hb ht inX7 hown hK.1 hP14 0 rfl rfl 7 (by decide) (ht _ q_673) (fun _ h9 => h9) rfl dX7_link_57 ?_
          refine lv_iload_n hx hb dX7_link_60 rfl (lv_at hl24 0 rfl) ?_
          refine k_callv (kRunV (As := [.ref q4, .int (s_X7_readLink_re L tx re j1)]) (rest := []) kx (c_X7_goFor l G Z_1 sd h0 q1 q2 q3 q4 q5 q6 q7 q8 q9 q10 q11 pg_1 q4 (s_X7_readLink_re L tx re j1)) q_778 q_775 q_36 q_777 q_17 nX7_goFor ⟨Nat.le_of_ble_eq_true rfl, Nat.le_of_ble_eq_true rfl⟩ hK hP14 hD14 (kCtx_places _ _ [0, 4] rfl rfl) 0 7 rfl rfl rfl rfl hl24.1 (Nat.le_of_ble_eq_true rfl) dX7_link_61 ⟨Nat.zero_le _, Nat.zero_le _⟩) hP14 hD14 hS14 hA (kCtx_places _ _ [0, 4] rfl rfl) (fun _ => rfl) (fun u H41 locs41 hw hP41 hD41 hS41 => ?_)
          obtain ⟨F16, F17⟩ := u
          obtain ⟨hF16, hF17⟩ := hw
          have hF16 : s_X7_goFor_Z Z_1 pg_1 (s_X7_readLink_re L tx re j1) = F16 := (show F16 = s_X7_goFor_Z Z_1 pg_1 (s_X7_readLink_re L tx re j1) from hF16).symm
          have hF17 : s_X7_goFor_f Z_1 pg_1 (s_X7_readLink_re L tx re j1) = F17 := (show F17 = s_X7_goFor_f Z_1 pg_1 (s_X7_readLink_re L tx re j1) from hF17).symm
          have hP42 : va_P G.1 vwCl ([(h0, .inr (7, cM F16 q1 q2 q3 q4 q5 q6 q7 q8 q9 q10 q11 sd)), (q1, .inl (G.2.1, 70, .inl tx)), (q2, .inl (G.2.1, 55, .inl (s_X7_readLink_rp L tx rp re))), (q3, .inl (G.2.1, 70, .inl (s_X7_readLink_re L tx re))), (q4, .inl (G.2.1, 55, .inl F17)), (q5, .inl (G.2.1, 55, .inl (s_X7_lay_t (s_X7_lay_t (s_X7_readLink_rp L tx rp re) pg) tr))), (q8, .inl (G.2.2.1, 2, .inl ik))]) H41 := hP41
          have hD43 : va_D A ([(h0, .inr (7, cM F16 q1 q2 q3 q4 q5 q6 q7 q8 q9 q10 q11 sd)), (q1, .inl (G.2.1, 70, .inl tx)), (q2, .inl (G.2.1, 55, .inl (s_X7_readLink_rp L tx rp re))), (q3, .inl (G.2.1, 70, .inl (s_X7_readLink_re L tx re))), (q4, .inl (G.2.1, 55, .inl F17)), (q5, .inl (G.2.1, 55, .inl (s_X7_lay_t (s_X7_lay_t (s_X7_readLink_rp L tx rp re) pg) tr))), (q8, .inl (G.2.2.1, 2, .inl ik))]) := hD41
          refine lv_goto (tgt := 111) hx hb dX7_link_64 (by decide) ?_
          refine lv_iinc (v := nI (j1 + 1)) (lv' := [(1, .int (nI (j1 + 1))), (2, .int (s_X7_readLink_re L tx re j1)), (0, .ref h0)]) hx hb dX7_link_111 hl24 (k := 2) rfl (nI_1 j1) (by decide) rfl (fun ls44 hl44 => ?_)
          refine lv_goto (tgt := 34) hx hb dX7_link_114 (by decide) ?_
          subst hF16
          subst hF17
          have gr : r_X7_link Z L tx rp re pg = l_X7_link_1_r L tx re n1 (j1 + 1) (s_X7_goFor_Z Z_1 pg_1 (s_X7_readLink_re L tx re j1)) (s_X7_goFor_f Z_1 pg_1 (s_X7_readLink_re L tx re j1)) := by rw [hr_1, l_X7_link_1_r, if_neg c11]
          have gZ : s_X7_link_Z Z L tx rp re pg = l_X7_link_1_Z L tx re n1 (j1 + 1) (s_X7_goFor_Z Z_1 pg_1 (s_X7_readLink_re L tx re j1)) (s_X7_goFor_f Z_1 pg_1 (s_X7_readLink_re L tx re j1)) := by rw [hZ_1, l_X7_link_1_Z, if_neg c11]
          have grp : s_X7_link_rp Z L tx rp re pg = l_X7_link_1_rp L tx rp re n1 (j1 + 1) (s_X7_goFor_Z Z_1 pg_1 (s_X7_readLink_re L tx re j1)) (s_X7_goFor_f Z_1 pg_1 (s_X7_readLink_re L tx re j1)) := by rw [hrp_1, l_X7_link_1_rp, if_neg c11]
          have gre : s_X7_link_re Z L tx rp re pg = l_X7_link_1_re L tx re n1 (j1 + 1) (s_X7_goFor_Z Z_1 pg_1 (s_X7_readLink_re L tx re j1)) (s_X7_goFor_f Z_1 pg_1 (s_X7_readLink_re L tx re j1)) := by rw [hre_1, l_X7_link_1_re, if_neg c11]
          have gpg : s_X7_link_pg Z L tx rp re pg = l_X7_link_1_pg L tx re n1 (j1 + 1) (s_X7_goFor_Z Z_1 pg_1 (s_X7_readLink_re L tx re j1)) (s_X7_goFor_f Z_1 pg_1 (s_X7_readLink_re L tx re j1)) := by rw [hpg_1, l_X7_link_1_pg, if_neg c11]
          have gtr : s_X7_link_tr Z L tx rp re pg tr = l_X7_link_1_tr L tx rp re pg tr n1 (j1 + 1) (s_X7_goFor_Z Z_1 pg_1 (s_X7_readLink_re L tx re j1)) (s_X7_goFor_f Z_1 pg_1 (s_X7_readLink_re L tx re j1)) := by rw [htr_1, l_X7_link_1_tr, if_neg c11]
          have gik : s_X7_link_ik Z L tx rp re pg ik = l_X7_link_1_ik L tx re ik n1 (j1 + 1) (s_X7_goFor_Z Z_1 pg_1 (s_X7_readLink_re L tx re j1)) (s_X7_goFor_f Z_1 pg_1 (s_X7_readLink_re L tx re j1)) := by rw [hik_1, l_X7_link_1_ik, if_neg c11]
          exact ih1 (j1 + 1) (s_X7_goFor_Z Z_1 pg_1 (s_X7_readLink_re L tx re j1)) (s_X7_goFor_f Z_1 pg_1 (s_X7_readLink_re L tx re j1)) (by omega) gr gZ grp gre gpg gtr gik ((zgoFor _ _ _ 6 (by decide) (by decide)).trans hz1) _ _ _ hP42 hD43 hS41 (lv_sub hl44 [2, 0] rfl)
    have gr : r_X7_link Z L tx rp re pg = l_X7_link_1_r L tx re (((s_X7_readLink_Z (upd (upd Z 2 (nI L)) 0 0) L tx re) 6).toNatClampNeg) 0 (upd (upd (upd (s_X7_readLink_Z (upd (upd Z 2 (nI L)) 0 0) L tx re) 18 (-9)) 20 0) 21 6) (s_X7_lay_t (s_X7_readLink_rp L tx rp re) pg) := by rw [r_X7_link, if_pos c5]
    have gZ : s_X7_link_Z Z L tx rp re pg = l_X7_link_1_Z L tx re (((s_X7_readLink_Z (upd (upd Z 2 (nI L)) 0 0) L tx re) 6).toNatClampNeg) 0 (upd (upd (upd (s_X7_readLink_Z (upd (upd Z 2 (nI L)) 0 0) L tx re) 18 (-9)) 20 0) 21 6) (s_X7_lay_t (s_X7_readLink_rp L tx rp re) pg) := by rw [s_X7_link_Z, if_pos c5]
    have grp : s_X7_link_rp Z L tx rp re pg = l_X7_link_1_rp L tx rp re (((s_X7_readLink_Z (upd (upd Z 2 (nI L)) 0 0) L tx re) 6).toNatClampNeg) 0 (upd (upd (upd (s_X7_readLink_Z (upd (upd Z 2 (nI L)) 0 0) L tx re) 18 (-9)) 20 0) 21 6) (s_X7_lay_t (s_X7_readLink_rp L tx rp re) pg) := by rw [s_X7_link_rp, if_pos c5]
    have gre : s_X7_link_re Z L tx rp re pg = l_X7_link_1_re L tx re (((s_X7_readLink_Z (upd (upd Z 2 (nI L)) 0 0) L tx re) 6).toNatClampNeg) 0 (upd (upd (upd (s_X7_readLink_Z (upd (upd Z 2 (nI L)) 0 0) L tx re) 18 (-9)) 20 0) 21 6) (s_X7_lay_t (s_X7_readLink_rp L tx rp re) pg) := by rw [s_X7_link_re, if_pos c5]
    have gpg : s_X7_link_pg Z L tx rp re pg = l_X7_link_1_pg L tx re (((s_X7_readLink_Z (upd (upd Z 2 (nI L)) 0 0) L tx re) 6).toNatClampNeg) 0 (upd (upd (upd (s_X7_readLink_Z (upd (upd Z 2 (nI L)) 0 0) L tx re) 18 (-9)) 20 0) 21 6) (s_X7_lay_t (s_X7_readLink_rp L tx rp re) pg) := by rw [s_X7_link_pg, if_pos c5]
    have gtr : s_X7_link_tr Z L tx rp re pg tr = l_X7_link_1_tr L tx rp re pg tr (((s_X7_readLink_Z (upd (upd Z 2 (nI L)) 0 0) L tx re) 6).toNatClampNeg) 0 (upd (upd (upd (s_X7_readLink_Z (upd (upd Z 2 (nI L)) 0 0) L tx re) 18 (-9)) 20 0) 21 6) (s_X7_lay_t (s_X7_readLink_rp L tx rp re) pg) := by rw [s_X7_link_tr, if_pos c5]
    have gik : s_X7_link_ik Z L tx rp re pg ik = l_X7_link_1_ik L tx re ik (((s_X7_readLink_Z (upd (upd Z 2 (nI L)) 0 0) L tx re) 6).toNatClampNeg) 0 (upd (upd (upd (s_X7_readLink_Z (upd (upd Z 2 (nI L)) 0 0) L tx re) 18 (-9)) 20 0) 21 6) (s_X7_lay_t (s_X7_readLink_rp L tx rp re) pg) := by rw [s_X7_link_ik, if_pos c5]
    exact lp1 (((s_X7_readLink_Z (upd (upd Z 2 (nI L)) 0 0) L tx re) 6).toNatClampNeg) 0 (upd (upd (upd (s_X7_readLink_Z (upd (upd Z 2 (nI L)) 0 0) L tx re) 18 (-9)) 20 0) 21 6) (s_X7_lay_t (s_X7_readLink_rp L tx rp re) pg) (by omega) gr gZ grp gre gpg gtr gik rfl _ _ _ hP11 hD12 hS10 (lv_sub hl13 [1, 0] rfl)
  · skip
    refine lv_bipush (v := (-3)) hx hb dX7_link_14 (by decide) ?_
    have er : r_X7_link Z L tx rp re pg = (-3) := by rw [r_X7_link]; (try rw [hF2]); (try rw [hF3]); (try rw [hF4]); (try rw [hr1]); rw [if_neg c5]
    have e0 : s_X7_link_Z Z L tx rp re pg = F2 := by rw [s_X7_link_Z]; (try rw [hF2]); (try rw [hF3]); (try rw [hF4]); (try rw [hr1]); rw [if_neg c5]
    have e1 : s_X7_link_rp Z L tx rp re pg = F3 := by rw [s_X7_link_rp]; (try rw [hF2]); (try rw [hF3]); (try rw [hF4]); (try rw [hr1]); rw [if_neg c5]
    have e2 : s_X7_link_re Z L tx rp re pg = F4 := by rw [s_X7_link_re]; (try rw [hF2]); (try rw [hF3]); (try rw [hF4]); (try rw [hr1]); rw [if_neg c5]
    have e3 : s_X7_link_pg Z L tx rp re pg = pg := by rw [s_X7_link_pg]; (try rw [hF2]); (try rw [hF3]); (try rw [hF4]); (try rw [hr1]); rw [if_neg c5]
    have e4 : s_X7_link_tr Z L tx rp re pg tr = tr := by rw [s_X7_link_tr]; (try rw [hF2]); (try rw [hF3]); (try rw [hF4]); (try rw [hr1]); rw [if_neg c5]
    have e5 : s_X7_link_ik Z L tx rp re pg ik = ik := by rw [s_X7_link_ik]; (try rw [hF2]); (try rw [hF3]); (try rw [hF4]); (try rw [hr1]); rw [if_neg c5]
    exact k_iret kx hK hP5 hD6 hS4 (u := (F2, F3, F4, pg, tr, ik)) rfl ⟨er.symm, e0.symm, e1.symm, e2.symm, e3.symm, e4.symm, e5.symm⟩ dX7_link_16

def t_X7_which_2_may (pg : Nat → Int32) (sa : Nat → Int32) (se : Nat → Int32) (sm : Nat → Int32) (j1 : Nat) : Nat → Nat → Int32 → (Nat → Int32) → (Nat → Int32) → Int32
  | 0, j2, may_2, Z_2, tr_2 => may_2
  | n2 + 1, j2, may_2, Z_2, tr_2 => if may_2 = 0 then may_2 else t_X7_which_2_may pg sa se sm j1 n2 (j2 + 1) (r_X7_isSeen Z_2 j2 pg tr_2 sa se sm (nI j1)) (s_X7_isSeen_Z Z_2 j2 pg tr_2 sa se sm (nI j1)) (s_X7_isSeen_tr Z_2 j2 pg tr_2 sa se sm (nI j1))
def t_X7_which_2_Z (pg : Nat → Int32) (sa : Nat → Int32) (se : Nat → Int32) (sm : Nat → Int32) (j1 : Nat) : Nat → Nat → Int32 → (Nat → Int32) → (Nat → Int32) → Nat → Int32
  | 0, j2, may_2, Z_2, tr_2 => Z_2
  | n2 + 1, j2, may_2, Z_2, tr_2 => if may_2 = 0 then Z_2 else t_X7_which_2_Z pg sa se sm j1 n2 (j2 + 1) (r_X7_isSeen Z_2 j2 pg tr_2 sa se sm (nI j1)) (s_X7_isSeen_Z Z_2 j2 pg tr_2 sa se sm (nI j1)) (s_X7_isSeen_tr Z_2 j2 pg tr_2 sa se sm (nI j1))
def t_X7_which_2_tr (pg : Nat → Int32) (sa : Nat → Int32) (se : Nat → Int32) (sm : Nat → Int32) (j1 : Nat) : Nat → Nat → Int32 → (Nat → Int32) → (Nat → Int32) → Nat → Int32
  | 0, j2, may_2, Z_2, tr_2 => tr_2
  | n2 + 1, j2, may_2, Z_2, tr_2 => if may_2 = 0 then tr_2 else t_X7_which_2_tr pg sa se sm j1 n2 (j2 + 1) (r_X7_isSeen Z_2 j2 pg tr_2 sa se sm (nI j1)) (s_X7_isSeen_Z Z_2 j2 pg tr_2 sa se sm (nI j1)) (s_X7_isSeen_tr Z_2 j2 pg tr_2 sa se sm (nI j1))
def l_X7_which_1_r (z : Nat) (pg : Nat → Int32) (sa : Nat → Int32) (se : Nat → Int32) (sm : Nat → Int32) : Nat → Nat → Int32 → (Nat → Int32) → (Nat → Int32) → Int32
  | 0, j1, set_1, Z_1, tr_1 => set_1
  | n1 + 1, j1, set_1, Z_1, tr_1 => if (t_X7_which_2_may pg sa se sm j1 z 0 1 Z_1 tr_1) = 0 then (l_X7_which_1_r z pg sa se sm n1 (j1 + 1) (set_1 ||| 0) (t_X7_which_2_Z pg sa se sm j1 z 0 1 Z_1 tr_1) (t_X7_which_2_tr pg sa se sm j1 z 0 1 Z_1 tr_1)) else l_X7_which_1_r z pg sa se sm n1 (j1 + 1) (set_1 ||| (kShl 1 (nI j1))) (t_X7_which_2_Z pg sa se sm j1 z 0 1 Z_1 tr_1) (t_X7_which_2_tr pg sa se sm j1 z 0 1 Z_1 tr_1)
def r_X7_which (Z : Nat → Int32) (z : Nat) (pg : Nat → Int32) (tr : Nat → Int32) (sa : Nat → Int32) (se : Nat → Int32) (sm : Nat → Int32) : Int32 := l_X7_which_1_r z pg sa se sm 9 1 0 (upd (upd Z 13 (nI z)) 0 0) tr
def l_X7_which_1_Z (z : Nat) (pg : Nat → Int32) (sa : Nat → Int32) (se : Nat → Int32) (sm : Nat → Int32) : Nat → Nat → Int32 → (Nat → Int32) → (Nat → Int32) → Nat → Int32
  | 0, j1, set_1, Z_1, tr_1 => Z_1
  | n1 + 1, j1, set_1, Z_1, tr_1 => if (t_X7_which_2_may pg sa se sm j1 z 0 1 Z_1 tr_1) = 0 then (l_X7_which_1_Z z pg sa se sm n1 (j1 + 1) (set_1 ||| 0) (t_X7_which_2_Z pg sa se sm j1 z 0 1 Z_1 tr_1) (t_X7_which_2_tr pg sa se sm j1 z 0 1 Z_1 tr_1)) else l_X7_which_1_Z z pg sa se sm n1 (j1 + 1) (set_1 ||| (kShl 1 (nI j1))) (t_X7_which_2_Z pg sa se sm j1 z 0 1 Z_1 tr_1) (t_X7_which_2_tr pg sa se sm j1 z 0 1 Z_1 tr_1)
def s_X7_which_Z (Z : Nat → Int32) (z : Nat) (pg : Nat → Int32) (tr : Nat → Int32) (sa : Nat → Int32) (se : Nat → Int32) (sm : Nat → Int32) : Nat → Int32 := l_X7_which_1_Z z pg sa se sm 9 1 0 (upd (upd Z 13 (nI z)) 0 0) tr
def l_X7_which_1_tr (z : Nat) (pg : Nat → Int32) (sa : Nat → Int32) (se : Nat → Int32) (sm : Nat → Int32) : Nat → Nat → Int32 → (Nat → Int32) → (Nat → Int32) → Nat → Int32
  | 0, j1, set_1, Z_1, tr_1 => tr_1
  | n1 + 1, j1, set_1, Z_1, tr_1 => if (t_X7_which_2_may pg sa se sm j1 z 0 1 Z_1 tr_1) = 0 then (l_X7_which_1_tr z pg sa se sm n1 (j1 + 1) (set_1 ||| 0) (t_X7_which_2_Z pg sa se sm j1 z 0 1 Z_1 tr_1) (t_X7_which_2_tr pg sa se sm j1 z 0 1 Z_1 tr_1)) else l_X7_which_1_tr z pg sa se sm n1 (j1 + 1) (set_1 ||| (kShl 1 (nI j1))) (t_X7_which_2_Z pg sa se sm j1 z 0 1 Z_1 tr_1) (t_X7_which_2_tr pg sa se sm j1 z 0 1 Z_1 tr_1)
def s_X7_which_tr (Z : Nat → Int32) (z : Nat) (pg : Nat → Int32) (tr : Nat → Int32) (sa : Nat → Int32) (se : Nat → Int32) (sm : Nat → Int32) : Nat → Int32 := l_X7_which_1_tr z pg sa se sm 9 1 0 (upd (upd Z 13 (nI z)) 0 0) tr
set_option maxHeartbeats 4000000 in
set_option maxRecDepth 100000 in
theorem c_X7_which (l : Launch) (G : kG) (Z : Nat → Int32) (z : Nat) (sd : Int64) (h0 : Nat) (q1 : Nat) (q2 : Nat) (q3 : Nat) (q4 : Nat) (q5 : Nat) (q6 : Nat) (q7 : Nat) (q8 : Nat) (q9 : Nat) (q10 : Nat) (q11 : Nat) (pg : Nat → Int32) (tr : Nat → Int32) (sa : Nat → Int32) (se : Nat → Int32) (sm : Nat → Int32) (hz9 : z ≤ 6) (hse : ∀ i, i < z → se i = 0 ∨ se i = 1) : cG l G yX7_which cX7_which 5 (some .int) 7 [.ref h0] ([(h0, .inr (7, cM (upd Z 13 (nI z)) q1 q2 q3 q4 q5 q6 q7 q8 q9 q10 q11 sd)), (q4, .inl (G.2.1, 55, .inl pg)), (q5, .inl (G.2.1, 55, .inl tr)), (q9, .inl (G.2.1, 6, .inl sa)), (q10, .inl (G.2.1, 6, .inl se)), (q11, .inl (G.2.1, 6, .inl sm))]) (qI G (fun (r : Int32) (u : ((Nat → Int32) × (Nat → Int32))) => r = r_X7_which Z z pg tr sa se sm ∧ u.1 = s_X7_which_Z Z z pg tr sa se sm ∧ u.2 = s_X7_which_tr Z z pg tr sa se sm) (fun u => [(h0, .inr (7, cM u.1 q1 q2 q3 q4 q5 q6 q7 q8 q9 q10 q11 sd)), (q4, .inl (G.2.1, 55, .inl pg)), (q5, .inl (G.2.1, 55, .inl u.2)), (q9, .inl (G.2.1, 6, .inl sa)), (q10, .inl (G.2.1, 6, .inl se)), (q11, .inl (G.2.1, 6, .inl sm))])) := by
  refine kintro (by decide) (Nat.le_of_ble_eq_true rfl) ?_
  intro p e s m args below meth c A ls kx hK hP hD hS hA hl
  have kx : kX p s m args meth c cX7_which 5 (some .int) RX7 := kx
  have hx := kx.1
  have hb := kx.2.1
  have hown := kx.2.2.2.2.1
  have ht := kx.2.2.2.2.2.2
  have hl : lv_has ls 5 [(0, .ref h0)] := hl
  refine lv_aload_n hx hb dX7_which_0 rfl (lv_at hl 0 rfl) ?_
  refine lv_iconst (v := 0) hx hb dX7_which_1 (by decide) ?_
  refine va_put (ci := 7) (v := .int 0) (ty := .int) (C := RX7) (T := TX7) (N := 22) hx hb ht inX7 tyX7 tyX7_ok nmX7 hown hK.1 hP hD hS 0 rfl rfl 0 (by decide) (ht _ q_666) (fun _ h9 => h9) rfl (by decide +kernel) rfl rfl (Nat.le_of_ble_eq_true rfl) dX7_which_2 (fun H1 locs1 hP1 hD1 hS1 => ?_)
  have hP2 : va_P G.1 vwCl ([(h0, .inr (7, cM (upd (upd Z 13 (nI z)) 0 0) q1 q2 q3 q4 q5 q6 q7 q8 q9 q10 q11 sd)), (q4, .inl (G.2.1, 55, .inl pg)), (q5, .inl (G.2.1, 55, .inl tr)), (q9, .inl (G.2.1, 6, .inl sa)), (q10, .inl (G.2.1, 6, .inl se)), (q11, .inl (G.2.1, 6, .inl sm))]) H1 := hP1
  have hD3 : va_D A ([(h0, .inr (7, cM (upd (upd Z 13 (nI z)) 0 0) q1 q2 q3 q4 q5 q6 q7 q8 q9 q10 q11 sd)), (q4, .inl (G.2.1, 55, .inl pg)), (q5, .inl (G.2.1, 55, .inl tr)), (q9, .inl (G.2.1, 6, .inl sa)), (q10, .inl (G.2.1, 6, .inl se)), (q11, .inl (G.2.1, 6, .inl sm))]) := hD1
  refine lv_iconst (v := 0) hx hb dX7_which_5 (by decide) ?_
  refine lv_istore_n (lv' := [(1, .int 0), (0, .ref h0)]) hx hb dX7_which_6 rfl hl (by decide) rfl (fun ls4 hl4 => ?_)
  refine lv_iconst (v := 1) hx hb dX7_which_7 (by decide) ?_
  refine lv_istore_n (lv' := [(2, .int 1), (1, .int 0), (0, .ref h0)]) hx hb dX7_which_8 rfl hl4 (by decide) rfl (fun ls5 hl5 => ?_)
  have lp1 : ∀ (n1 j1 : Nat) (set_1 : Int32) (Z_1 : Nat → Int32) (tr_1 : Nat → Int32), j1 + n1 = 10 → (hr_1 : r_X7_which Z z pg tr sa se sm = l_X7_which_1_r z pg sa se sm n1 j1 set_1 Z_1 tr_1) → (hZ_1 : s_X7_which_Z Z z pg tr sa se sm = l_X7_which_1_Z z pg sa se sm n1 j1 set_1 Z_1 tr_1) → (htr_1 : s_X7_which_tr Z z pg tr sa se sm = l_X7_which_1_tr z pg sa se sm n1 j1 set_1 Z_1 tr_1) → (hz1 : Z_1 13 = nI z) → ∀ (H : Heap) (locs : List Loc) (ls : Array Slot), va_P G.1 vwCl ([(h0, .inr (7, cM Z_1 q1 q2 q3 q4 q5 q6 q7 q8 q9 q10 q11 sd)), (q4, .inl (G.2.1, 55, .inl pg)), (q5, .inl (G.2.1, 55, .inl tr_1)), (q9, .inl (G.2.1, 6, .inl sa)), (q10, .inl (G.2.1, 6, .inl se)), (q11, .inl (G.2.1, 6, .inl sm))]) H → va_D A ([(h0, .inr (7, cM Z_1 q1 q2 q3 q4 q5 q6 q7 q8 q9 q10 q11 sd)), (q4, .inl (G.2.1, 55, .inl pg)), (q5, .inl (G.2.1, 55, .inl tr_1)), (q9, .inl (G.2.1, 6, .inl sa)), (q10, .inl (G.2.1, 6, .inl se)), (q11, .inl (G.2.1, 6, .inl sm))]) → va_S A s.heap H locs → lv_has ls 5 [(0, .ref h0), (1, .int set_1), (2, .int (nI j1))] → W p l e (kr 7) s m args below meth c H locs 0 0 (MQ below (qI G (fun (r : Int32) (u : ((Nat → Int32) × (Nat → Int32))) => r = r_X7_which Z z pg tr sa se sm ∧ u.1 = s_X7_which_Z Z z pg tr sa se sm ∧ u.2 = s_X7_which_tr Z z pg tr sa se sm) (fun u => [(h0, .inr (7, cM u.1 q1 q2 q3 q4 q5 q6 q7 q8 q9 q10 q11 sd)), (q4, .inl (G.2.1, 55, .inl pg)), (q5, .inl (G.2.1, 55, .inl u.2)), (q9, .inl (G.2.1, 6, .inl sa)), (q10, .inl (G.2.1, 6, .inl se)), (q11, .inl (G.2.1, 6, .inl sm))]) A) args s 0 0 A) (F0 m 9 ls []) := by
    intro n1
    induction n1 with
    | zero =>
      intro j1 set_1 Z_1 tr_1 hj1 hr_1 hZ_1 htr_1 hz1 H6 locs6 ls6 hP6 hD6 hS6 hl6
      refine lv_iload_n hx hb dX7_which_9 rfl (lv_at hl6 2 rfl) ?_
      refine lv_bipush (v := 10) hx hb dX7_which_10 (by decide) ?_
      refine lv_icmp_ge (x := nI j1) (y := 10) (tgt := 67) hx hb dX7_which_12 (by decide) (fun (c1 : 10 ≤ nI j1) => ?_) (fun (c1 : ¬ (10 ≤ nI j1)) => absurd (kle_z rfl hj1) c1)
      refine lv_iload_n hx hb dX7_which_67 rfl (lv_at hl6 1 rfl) ?_
      have er : r_X7_which Z z pg tr sa se sm = set_1 := by rw [hr_1, l_X7_which_1_r]
      have e0 : s_X7_which_Z Z z pg tr sa se sm = Z_1 := by rw [hZ_1, l_X7_which_1_Z]
      have e1 : s_X7_which_tr Z z pg tr sa se sm = tr_1 := by rw [htr_1, l_X7_which_1_tr]
      exact k_iret kx hK hP6 hD6 hS6 (u := (Z_1, tr_1)) rfl ⟨er.symm, e0.symm, e1.symm⟩ dX7_which_68
    | succ n1 ih1 =>
      intro j1 set_1 Z_1 tr_1 hj1 hr_1 hZ_1 htr_1 hz1 H6 locs6 ls6 hP6 hD6 hS6 hl6
      refine lv_iload_n hx hb dX7_which_9 rfl (lv_at hl6 2 rfl) ?_
      refine lv_bipush (v := 10) hx hb dX7_which_10 (by decide) ?_
      refine lv_icmp_ge (x := nI j1) (y := 10) (tgt := 67) hx hb dX7_which_12 (by decide) (fun (c2 : 10 ≤ nI j1) => absurd c2 (kle_s rfl hj1 (by decide))) (fun (c2 : ¬ (10 ≤ nI j1)) => ?_)
      refine lv_iconst (v := 1) hx hb dX7_which_15 (by decide) ?_
      refine lv_istore_n (lv' := [(3, .int 1), (0, .ref h0), (1, .int set_1), (2, .int (nI j1))]) hx hb dX7_which_16 rfl hl6 (by decide) rfl (fun ls7 hl7 => ?_)
      refine lv_iconst (v := 0) hx hb dX7_which_17 (by decide) ?_
      refine lv_istore (lv' := [(4, .int 0), (3, .int 1), (0, .ref h0), (1, .int set_1), (2, .int (nI j1))]) hx hb dX7_which_18 hl7 (by decide) rfl (fun ls8 hl8 => ?_)
      have cut2 : ∀ (r9 : Int32) (F10 : Nat → Int32) (F11 : Nat → Int32) (H : Heap) (locs : List Loc) (ls : Array Slot), (hr9 : t_X7_which_2_may pg sa se sm j1 z 0 1 Z_1 tr_1 = r9) → (hF10 : t_X7_which_2_Z pg sa se sm j1 z 0 1 Z_1 tr_1 = F10) → (hF11 : t_X7_which_2_tr pg sa se sm j1 z 0 1 Z_1 tr_1 = F11) → (hzx2 : F10 13 = nI z) → va_P G.1 vwCl ([(h0, .inr (7, cM F10 q1 q2 q3 q4 q5 q6 q7 q8 q9 q10 q11 sd)), (q4, .inl (G.2.1, 55, .inl pg)), (q5, .inl (G.2.1, 55, .inl F11)), (q9, .inl (G.2.1, 6, .inl sa)), (q10, .inl (G.2.1, 6, .inl se)), (q11, .inl (G.2.1, 6, .inl sm))]) H → va_D A ([(h0, .inr (7, cM F10 q1 q2 q3 q4 q5 q6 q7 q8 q9 q10 q11 sd)), (q4, .inl (G.2.1, 55, .inl pg)), (q5, .inl (G.2.1, 55, .inl F11)), (q9, .inl (G.2.1, 6, .inl sa)), (q10, .inl (G.2.1, 6, .inl se)), (q11, .inl (G.2.1, 6, .inl sm))]) → va_S A s.heap H locs → lv_has ls 5 [(0, .ref h0), (1, .int set_1), (2, .int (nI j1)), (3, .int r9)] → W p l e (kr 7) s m args below meth c H locs 0 0 (MQ below (qI G (fun (r : Int32) (u : ((Nat → Int32) × (Nat → Int32))) => r = r_X7_which Z z pg tr sa se sm ∧ u.1 = s_X7_which_Z Z z pg tr sa se sm ∧ u.2 = s_X7_which_tr Z z pg tr sa se sm) (fun u => [(h0, .inr (7, cM u.1 q1 q2 q3 q4 q5 q6 q7 q8 q9 q10 q11 sd)), (q4, .inl (G.2.1, 55, .inl pg)), (q5, .inl (G.2.1, 55, .inl u.2)), (q9, .inl (G.2.1, 6, .inl sa)), (q10, .inl (G.2.1, 6, .inl se)), (q11, .inl (G.2.1, 6, .inl sm))]) A) args s 0 0 A) (F0 m 47 ls []) := by
        intro r9 F10 F11 H9 locs9 ls9 hr9 hF10 hF11 hzx2 hP9 hD9 hS9 hl9
        refine lv_iload_n hx hb dX7_which_47 rfl (lv_at hl9 1 rfl) ?_
        refine lv_iload_n hx hb dX7_which_48 rfl (lv_at hl9 3 rfl) ?_
        refine lv_if_eq (x := r9) (tgt := 58) hx hb dX7_which_49 (by decide) (fun (c12 : r9 = 0) => ?_) (fun (c12 : ¬ (r9 = 0)) => ?_)
        · skip
          refine lv_iconst (v := 0) hx hb dX7_which_58 (by decide) ?_
          refine lv_ior hx hb dX7_which_59 ?_
          refine lv_istore_n (lv' := [(1, .int (set_1 ||| 0)), (0, .ref h0), (2, .int (nI j1)), (3, .int r9)]) hx hb dX7_which_60 rfl hl9 (by decide) rfl (fun ls10 hl10 => ?_)
          refine lv_iinc (v := nI (j1 + 1)) (lv' := [(2, .int (nI (j1 + 1))), (1, .int (set_1 ||| 0)), (0, .ref h0), (3, .int r9)]) hx hb dX7_which_61 hl10 (k := 2) rfl (nI_1 j1) (by decide) rfl (fun ls11 hl11 => ?_)
          refine lv_goto (tgt := 9) hx hb dX7_which_64 (by decide) ?_
          subst hr9
          subst hF10
          subst hF11
          have gr : r_X7_which Z z pg tr sa se sm = l_X7_which_1_r z pg sa se sm n1 (j1 + 1) (set_1 ||| 0) (t_X7_which_2_Z pg sa se sm j1 z 0 1 Z_1 tr_1) (t_X7_which_2_tr pg sa se sm j1 z 0 1 Z_1 tr_1) := by rw [hr_1, l_X7_which_1_r, if_pos c12]
          have gZ : s_X7_which_Z Z z pg tr sa se sm = l_X7_which_1_Z z pg sa se sm n1 (j1 + 1) (set_1 ||| 0) (t_X7_which_2_Z pg sa se sm j1 z 0 1 Z_1 tr_1) (t_X7_which_2_tr pg sa se sm j1 z 0 1 Z_1 tr_1) := by rw [hZ_1, l_X7_which_1_Z, if_pos c12]
          have gtr : s_X7_which_tr Z z pg tr sa se sm = l_X7_which_1_tr z pg sa se sm n1 (j1 + 1) (set_1 ||| 0) (t_X7_which_2_Z pg sa se sm j1 z 0 1 Z_1 tr_1) (t_X7_which_2_tr pg sa se sm j1 z 0 1 Z_1 tr_1) := by rw [htr_1, l_X7_which_1_tr, if_pos c12]
          exact ih1 (j1 + 1) (set_1 ||| 0) (t_X7_which_2_Z pg sa se sm j1 z 0 1 Z_1 tr_1) (t_X7_which_2_tr pg sa se sm j1 z 0 1 Z_1 tr_1) (by omega) gr gZ gtr hzx2 _ _ _ hP9 hD9 hS9 (lv_sub hl11 [2, 1, 0] rfl)
        · skip
          refine lv_iconst (v := 1) hx hb dX7_which_52 (by decide) ?_
          refine lv_iload_n hx hb dX7_which_53 rfl (lv_at hl9 2 rfl) ?_
          refine lv_ishl hx hb dX7_which_54 ?_
          refine k_top (y := kShl 1 (nI j1)) rfl ?_
          refine lv_goto (tgt := 59) hx hb dX7_which_55 (by decide) ?_
          refine lv_ior hx hb dX7_which_59 ?_
          refine lv_istore_n (lv' := [(1, .int (set_1 ||| (kShl 1 (nI j1)))), (0, .ref h0), (2, .int (nI j1)), (3, .int r9)]) hx hb dX7_which_60 rfl hl9 (by decide) rfl (fun ls12 hl12 => ?_)
          refine lv_iinc (v := nI (j1 + 1)) (lv' := [(2, .int (nI (j1 + 1))), (1, .int (set_1 ||| (kShl 1 (nI j1)))), (0, .ref h0), (3, .int r9)]) hx hb dX7_which_61 hl12 (k := 2) rfl (nI_1 j1) (by decide) rfl (fun ls13 hl13 => ?_)
          refine lv_goto (tgt := 9) hx hb dX7_which_64 (by decide) ?_
          subst hr9
          subst hF10
          subst hF11
          have gr : r_X7_which Z z pg tr sa se sm = l_X7_which_1_r z pg sa se sm n1 (j1 + 1) (set_1 ||| (kShl 1 (nI j1))) (t_X7_which_2_Z pg sa se sm j1 z 0 1 Z_1 tr_1) (t_X7_which_2_tr pg sa se sm j1 z 0 1 Z_1 tr_1) := by rw [hr_1, l_X7_which_1_r, if_neg c12]
          have gZ : s_X7_which_Z Z z pg tr sa se sm = l_X7_which_1_Z z pg sa se sm n1 (j1 + 1) (set_1 ||| (kShl 1 (nI j1))) (t_X7_which_2_Z pg sa se sm j1 z 0 1 Z_1 tr_1) (t_X7_which_2_tr pg sa se sm j1 z 0 1 Z_1 tr_1) := by rw [hZ_1, l_X7_which_1_Z, if_neg c12]
          have gtr : s_X7_which_tr Z z pg tr sa se sm = l_X7_which_1_tr z pg sa se sm n1 (j1 + 1) (set_1 ||| (kShl 1 (nI j1))) (t_X7_which_2_Z pg sa se sm j1 z 0 1 Z_1 tr_1) (t_X7_which_2_tr pg sa se sm j1 z 0 1 Z_1 tr_1) := by rw [htr_1, l_X7_which_1_tr, if_neg c12]
          exact ih1 (j1 + 1) (set_1 ||| (kShl 1 (nI j1))) (t_X7_which_2_Z pg sa se sm j1 z 0 1 Z_1 tr_1) (t_X7_which_2_tr pg sa se sm j1 z 0 1 Z_1 tr_1) (by omega) gr gZ gtr hzx2 _ _ _ hP9 hD9 hS9 (lv_sub hl13 [2, 1, 0] rfl)
      have lp2 : ∀ (n2 j2 : Nat) (may_2 : Int32) (Z_2 : Nat → Int32) (tr_2 : Nat → Int32), j2 + n2 = z → (q2may_2 : t_X7_which_2_may pg sa se sm j1 z 0 1 Z_1 tr_1 = t_X7_which_2_may pg sa se sm j1 n2 j2 may_2 Z_2 tr_2) → (q2Z_2 : t_X7_which_2_Z pg sa se sm j1 z 0 1 Z_1 tr_1 = t_X7_which_2_Z pg sa se sm j1 n2 j2 may_2 Z_2 tr_2) → (q2tr_2 : t_X7_which_2_tr pg sa se sm j1 z 0 1 Z_1 tr_1 = t_X7_which_2_tr pg sa se sm j1 n2 j2 may_2 Z_2 tr_2) → (hz2 : Z_2 13 = nI z) → ∀ (H : Heap) (locs : List Loc) (ls : Array Slot), va_P G.1 vwCl ([(h0, .inr (7, cM Z_2 q1 q2 q3 q4 q5 q6 q7 q8 q9 q10 q11 sd)), (q4, .inl (G.2.1, 55, .inl pg)), (q5, .inl (G.2.1, 55, .inl tr_2)), (q9, .inl (G.2.1, 6, .inl sa)), (q10, .inl (G.2.1, 6, .inl se)), (q11, .inl (G.2.1, 6, .inl sm))]) H → va_D A ([(h0, .inr (7, cM Z_2 q1 q2 q3 q4 q5 q6 q7 q8 q9 q10 q11 sd)), (q4, .inl (G.2.1, 55, .inl pg)), (q5, .inl (G.2.1, 55, .inl tr_2)), (q9, .inl (G.2.1, 6, .inl sa)), (q10, .inl (G.2.1, 6, .inl se)), (q11, .inl (G.2.1, 6, .inl sm))]) → va_S A s.heap H locs → lv_has ls 5 [(0, .ref h0), (1, .int set_1), (2, .int (nI j1)), (3, .int may_2), (4, .int (nI j2))] → W p l e (kr 7) s m args below meth c H locs 0 0 (MQ below (qI G (fun (r : Int32) (u : ((Nat → Int32) × (Nat → Int32))) => r = r_X7_which Z z pg tr sa se sm ∧ u.1 = s_X7_which_Z Z z pg tr sa se sm ∧ u.2 = s_X7_which_tr Z z pg tr sa se sm) (fun u => [(h0, .inr (7, cM u.1 q1 q2 q3 q4 q5 q6 q7 q8 q9 q10 q11 sd)), (q4, .inl (G.2.1, 55, .inl pg)), (q5, .inl (G.2.1, 55, .inl u.2)), (q9, .inl (G.2.1, 6, .inl sa)), (q10, .inl (G.2.1, 6, .inl se)), (q11, .inl (G.2.1, 6, .inl sm))]) A) args s 0 0 A) (F0 m 20 ls []) := by
        intro n2
        induction n2 with
        | zero =>
          intro j2 may_2 Z_2 tr_2 hj2 q2may_2 q2Z_2 q2tr_2 hz2 H14 locs14 ls14 hP14 hD14 hS14 hl14
          refine lv_iload hx hb dX7_which_20 (lv_at hl14 4 rfl) ?_
          refine lv_aload_n hx hb dX7_which_22 rfl (lv_at hl14 0 rfl) ?_
          refine va_get (ci := 7) (v := .int (Z_2 13)) (C := RX7) (T := TX7) (N := 22) hx hb ht inX7 hown hK.1 hP14 0 rfl rfl 13 (by decide) (ht _ q_679) (fun _ h9 => h9) rfl dX7_which_23 ?_
          refine lv_icmp_ge (x := nI j2) (y := Z_2 13) (tgt := 47) hx hb dX7_which_26 (by decide) (fun (c3 : Z_2 13 ≤ nI j2) => ?_) (fun (c3 : ¬ (Z_2 13 ≤ nI j2)) => absurd (by rw [hz2]; exact kle_z rfl hj2) c3)
          have emay_2 : t_X7_which_2_may pg sa se sm j1 z 0 1 Z_1 tr_1 = may_2 := by rw [q2may_2, t_X7_which_2_may]; first | done | rfl
          have eZ_2 : t_X7_which_2_Z pg sa se sm j1 z 0 1 Z_1 tr_1 = Z_2 := by rw [q2Z_2, t_X7_which_2_Z]; first | done | rfl
          have etr_2 : t_X7_which_2_tr pg sa se sm j1 z 0 1 Z_1 tr_1 = tr_2 := by rw [q2tr_2, t_X7_which_2_tr]; first | done | rfl
          exact cut2 may_2 Z_2 tr_2 _ _ _ emay_2 eZ_2 etr_2 hz2 hP14 hD14 hS14 (lv_sub hl14 [0, 1, 2, 3] rfl)
        | succ n2 ih2 =>
          intro j2 may_2 Z_2 tr_2 hj2 q2may_2 q2Z_2 q2tr_2 hz2 H14 locs14 ls14 hP14 hD14 hS14 hl14
          refine lv_iload hx hb dX7_which_20 (lv_at hl14 4 rfl) ?_
          refine lv_aload_n hx hb dX7_which_22 rfl (lv_at hl14 0 rfl) ?_
          refine va_get (ci := 7) (v := .int (Z_2 13)) (C := RX7) (T := TX7) (N := 22) hx hb ht inX7 hown hK.1 hP14 0 rfl rfl 13 (by decide) (ht _ q_679) (fun _ h9 => h9) rfl dX7_which_23 ?_
          refine lv_icmp_ge (x := nI j2) (y := Z_2 13) (tgt := 47) hx hb dX7_which_26 (by decide) (fun (c4 : Z_2 13 ≤ nI j2) => absurd c4 (by rw [hz2]; exact kle_s rfl hj2 (by omega))) (fun (c4 : ¬ (Z_2 13 ≤ nI j2)) => ?_)
          refine lv_iload_n hx hb dX7_which_29 rfl (lv_at hl14 3 rfl) ?_
          refine lv_if_eq (x := may_2) (tgt := 47) hx hb dX7_which_30 (by decide) (fun (c5 : may_2 = 0) => ?_) (fun (c5 : ¬ (may_2 = 0)) => ?_)
          · skip
            have emay_2 : t_X7_which_2_may pg sa se sm j1 z 0 1 Z_1 tr_1 = may_2 := by rw [q2may_2, t_X7_which_2_may]; rw [if_pos c5]
            have eZ_2 : t_X7_which_2_Z pg sa se sm j1 z 0 1 Z_1 tr_1 = Z_2 := by rw [q2Z_2, t_X7_which_2_Z]; rw [if_pos c5]
            have etr_2 : t_X7_which_2_tr pg sa se sm j1 z 0 1 Z_1 tr_1 = tr_2 := by rw [q2tr_2, t_X7_which_2_tr]; rw [if_pos c5]
            exact cut2 may_2 Z_2 tr_2 _ _ _ emay_2 eZ_2 etr_2 hz2 hP14 hD14 hS14 (lv_sub hl14 [0, 1, 2, 3] rfl)
          · skip
            refine lv_aload_n hx hb dX7_which_33 rfl (lv_at hl14 0 rfl) ?_
            refine lv_iload_n hx hb dX7_which_34 rfl (lv_at hl14 2 rfl) ?_
            refine lv_iload hx hb dX7_which_35 (lv_at hl14 4 rfl) ?_
            refine k_calli (kRunV (As := [.int (nI j1), .int (nI j2)]) (rest := []) kx (c_X7_isSeen l G Z_2 j2 sd h0 q1 q2 q3 q4 q5 q6 q7 q8 q9 q10 q11 pg tr_2 sa se sm (nI j1) (by omega) (hse _ (by omega))) q_930 q_927 q_36 q_929 q_26 nX7_isSeen ⟨Nat.le_of_ble_eq_true rfl, Nat.le_of_ble_eq_true rfl⟩ hK hP14 hD14 (kCtx_all _) 0 7 rfl rfl rfl rfl hl14.1 (Nat.le_of_ble_eq_true rfl) dX7_which_37 ⟨Nat.zero_le _, Nat.zero_le _⟩) hP14 hD14 hS14 hA (kCtx_all _) (fun _ => rfl) (fun r6 u H15 locs15 hw hP15 hD15 hS15 => ?_)
            obtain ⟨F7, F8⟩ := u
            obtain ⟨hr6, hF7, hF8⟩ := hw
            have hr6 : r_X7_isSeen Z_2 j2 pg tr_2 sa se sm (nI j1) = r6 := (show r6 = r_X7_isSeen Z_2 j2 pg tr_2 sa se sm (nI j1) from hr6).symm
            have hF7 : s_X7_isSeen_Z Z_2 j2 pg tr_2 sa se sm (nI j1) = F7 := (show F7 = s_X7_isSeen_Z Z_2 j2 pg tr_2 sa se sm (nI j1) from hF7).symm
            have hF8 : s_X7_isSeen_tr Z_2 j2 pg tr_2 sa se sm (nI j1) = F8 := (show F8 = s_X7_isSeen_tr Z_2 j2 pg tr_2 sa se sm (nI j1) from hF8).symm
            have hP16 : va_P G.1 vwCl ([(h0, .inr (7, cM F7 q1 q2 q3 q4 q5 q6 q7 q8 q9 q10 q11 sd)), (q4, .inl (G.2.1, 55, .inl pg)), (q5, .inl (G.2.1, 55, .inl F8)), (q9, .inl (G.2.1, 6, .inl sa)), (q10, .inl (G.2.1, 6, .inl se)), (q11, .inl (G.2.1, 6, .inl sm))]) H15 := hP15
            have hD17 : va_D A ([(h0, .inr (7, cM F7 q1 q2 q3 q4 q5 q6 q7 q8 q9 q10 q11 sd)), (q4, .inl (G.2.1, 55, .inl pg)), (q5, .inl (G.2.1, 55, .inl F8)), (q9, .inl (G.2.1, 6, .inl sa)), (q10, .inl (G.2.1, 6, .inl se)), (q11, .inl (G.2.1, 6, .inl sm))]) := hD15
            refine lv_istore_n (lv' := [(3, .int r6), (0, .ref h0), (1, .int set_1), (2, .int (nI j1)), (4, .int (nI j2))]) hx hb dX7_which_40 rfl hl14 (by decide) rfl (fun ls18 hl18 => ?_)
            refine lv_iinc (v := nI (j2 + 1)) (lv' := [(4, .int (nI (j2 + 1))), (3, .int r6), (0, .ref h0), (1, .int set_1), (2, .int (nI j1))]) hx hb dX7_which_41 hl18 (k := 4) rfl (nI_1 j2) (by decide) rfl (fun ls19 hl19 => ?_)
            refine lv_goto (tgt := 20) hx hb dX7_which_44 (by decide) ?_
            subst hF7
            subst hF8
            subst hr6
            have gmay_2 : t_X7_which_2_may pg sa se sm j1 z 0 1 Z_1 tr_1 = t_X7_which_2_may pg sa se sm j1 n2 (j2 + 1) (r_X7_isSeen Z_2 j2 pg tr_2 sa se sm (nI j1)) (s_X7_isSeen_Z Z_2 j2 pg tr_2 sa se sm (nI j1)) (s_X7_isSeen_tr Z_2 j2 pg tr_2 sa se sm (nI j1)) := by rw [q2may_2, t_X7_which_2_may, if_neg c5]
            have gZ_2 : t_X7_which_2_Z pg sa se sm j1 z 0 1 Z_1 tr_1 = t_X7_which_2_Z pg sa se sm j1 n2 (j2 + 1) (r_X7_isSeen Z_2 j2 pg tr_2 sa se sm (nI j1)) (s_X7_isSeen_Z Z_2 j2 pg tr_2 sa se sm (nI j1)) (s_X7_isSeen_tr Z_2 j2 pg tr_2 sa se sm (nI j1)) := by rw [q2Z_2, t_X7_which_2_Z, if_neg c5]
            have gtr_2 : t_X7_which_2_tr pg sa se sm j1 z 0 1 Z_1 tr_1 = t_X7_which_2_tr pg sa se sm j1 n2 (j2 + 1) (r_X7_isSeen Z_2 j2 pg tr_2 sa se sm (nI j1)) (s_X7_isSeen_Z Z_2 j2 pg tr_2 sa se sm (nI j1)) (s_X7_isSeen_tr Z_2 j2 pg tr_2 sa se sm (nI j1)) := by rw [q2tr_2, t_X7_which_2_tr, if_neg c5]
            exact ih2 (j2 + 1) (r_X7_isSeen Z_2 j2 pg tr_2 sa se sm (nI j1)) (s_X7_isSeen_Z Z_2 j2 pg tr_2 sa se sm (nI j1)) (s_X7_isSeen_tr Z_2 j2 pg tr_2 sa se sm (nI j1)) (by omega) gmay_2 gZ_2 gtr_2 ((zseen _ _ _ _ _ _ _ _ 13 (by decide)).trans hz2) _ _ _ hP16 hD17 hS15 (lv_sub hl19 [2, 3, 4, 1, 0] rfl)
      exact lp2 z 0 1 Z_1 tr_1 (by omega) rfl rfl rfl hz1 _ _ _ hP6 hD6 hS6 (lv_sub hl8 [2, 3, 4, 1, 0] rfl)
  have gr : r_X7_which Z z pg tr sa se sm = l_X7_which_1_r z pg sa se sm 9 1 0 (upd (upd Z 13 (nI z)) 0 0) tr := by rw [r_X7_which]
  have gZ : s_X7_which_Z Z z pg tr sa se sm = l_X7_which_1_Z z pg sa se sm 9 1 0 (upd (upd Z 13 (nI z)) 0 0) tr := by rw [s_X7_which_Z]
  have gtr : s_X7_which_tr Z z pg tr sa se sm = l_X7_which_1_tr z pg sa se sm 9 1 0 (upd (upd Z 13 (nI z)) 0 0) tr := by rw [s_X7_which_tr]
  exact lp1 9 1 0 (upd (upd Z 13 (nI z)) 0 0) tr (by omega) gr gZ gtr rfl _ _ _ hP2 hD3 hS1 (lv_sub hl5 [2, 1, 0] rfl)
