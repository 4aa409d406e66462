def kBC (x : Int32) : Int32 := (((((((x - ((kUshr x 1) &&& 1431655765)) &&& 858993459) + ((kUshr (x - ((kUshr x 1) &&& 1431655765)) 2) &&& 858993459)) + (kUshr (((x - ((kUshr x 1) &&& 1431655765)) &&& 858993459) + ((kUshr (x - ((kUshr x 1) &&& 1431655765)) 2) &&& 858993459)) 4)) &&& 252645135) + (kUshr (((((x - ((kUshr x 1) &&& 1431655765)) &&& 858993459) + ((kUshr (x - ((kUshr x 1) &&& 1431655765)) 2) &&& 858993459)) + (kUshr (((x - ((kUshr x 1) &&& 1431655765)) &&& 858993459) + ((kUshr (x - ((kUshr x 1) &&& 1431655765)) 2) &&& 858993459)) 4)) &&& 252645135) 8)) + (kUshr ((((((x - ((kUshr x 1) &&& 1431655765)) &&& 858993459) + ((kUshr (x - ((kUshr x 1) &&& 1431655765)) 2) &&& 858993459)) + (kUshr (((x - ((kUshr x 1) &&& 1431655765)) &&& 858993459) + ((kUshr (x - ((kUshr x 1) &&& 1431655765)) 2) &&& 858993459)) 4)) &&& 252645135) + (kUshr (((((x - ((kUshr x 1) &&& 1431655765)) &&& 858993459) + ((kUshr (x - ((kUshr x 1) &&& 1431655765)) 2) &&& 858993459)) + (kUshr (((x - ((kUshr x 1) &&& 1431655765)) &&& 858993459) + ((kUshr (x - ((kUshr x 1) &&& 1431655765)) 2) &&& 858993459)) 4)) &&& 252645135) 8)) 16)) &&& 63
theorem kbc : ∀ j : Fin 64, kBC (nI j.val) = r_X7_ones (nI j.val) := by decide +kernel
theorem luck_step (gN : Nat → Nat → Int32) (p0 p1 p2 : Int32) (n j : Nat) (ab : Int32) (gT : Nat → Nat → Int32) : l_X6_luck_1_r gN p0 p1 p2 (n + 1) j ab gT = if r_X6_power p1 (kBC (nI j)) * r_X6_power (10 - p1) (p0 - kBC (nI j)) ≤ 0 then l_X6_luck_1_r gN p0 p1 p2 n (j + 1) ab gT else if r_X6_areUpWithLost gN (nI j) = 0 then l_X6_luck_1_r gN p0 p1 p2 n (j + 1) ab (s_X6_areUpWithLost_gT gN (nI j)) else l_X6_luck_1_r gN p0 p1 p2 n (j + 1) (ab + r_X6_power p1 (kBC (nI j)) * r_X6_power (10 - p1) (p0 - kBC (nI j))) (s_X6_areUpWithLost_gT gN (nI j)) := by
  unfold kBC
  rw [l_X6_luck_1_r]
theorem luck_gT (gN : Nat → Nat → Int32) (p0 p1 p2 : Int32) : ∀ (n j : Nat) (ab : Int32) (g1 g2 : Nat → Nat → Int32), l_X6_luck_1_r gN p0 p1 p2 n j ab g1 = l_X6_luck_1_r gN p0 p1 p2 n j ab g2
  | 0, _, _, _, _ => by rw [l_X6_luck_1_r, l_X6_luck_1_r]
  | n + 1, j, ab, g1, g2 => by rw [luck_step, luck_step, luck_gT gN p0 p1 p2 n (j + 1) ab g1 g2]
theorem rT_luck {g : Nat → Nat → Int32} {w t : Nat → Int32} (h : rW g w) (Z : Nat → Int32) {j : Nat} (hj : j < 64) : rT (kg (g 0) (g 1) (g 2) (g 3) (upd (g 4) 3 (nI j))) (upd (upd (upd (upd (upd Z 18 (-9)) 20 0) 21 6) 20 (nI j)) 21 0) (s_X7_lay_t w t) := by
  obtain ⟨a, b, c, d, e, f, i, l⟩ := rW_lay (t := t) h
  exact ⟨a, b, c, d, e, f, i, ⟨fun q => absurd (show (-9 : Int32) = 0 from q) (by decide), fun _ => l.1⟩, ⟨fun q => absurd (show (-9 : Int32) = 1 from q) (by decide), fun _ => l.2.1⟩, ⟨j, 0, hj, rfl, Or.inr ⟨by decide, rfl, (show nI j = nI (j / 2 ^ 0) from by rw [Nat.pow_zero, Nat.div_one])⟩⟩⟩
theorem q_lk {gN : Nat → Nat → Int32} {pg : Nat → Int32} (h : rW gN pg) {r x : Nat} (hr : r ≤ 6) (hx : x ≤ 10) (p2 k40 : Int32) (h40 : k40 = 40) : ∀ (n j : Nat) (ab : Int32) (gT : Nat → Nat → Int32) (Z tr : Nat → Int32), j + n = 2 ^ r → kBd (1000000 * j) ab → l_X6_luck_1_r gN (nI r) (nI x) p2 n j ab gT = l_X7_luck_ok_1_r pg r x p2 k40 n j ab Z tr
  | 0, j, ab, gT, Z, tr, hj, hb => by
    have h64 := kpow2 hr
    rw [l_X6_luck_1_r, l_X7_luck_ok_1_r, kpower2, show (10 : Int32) = nI 10 from rfl, rpow 10 (by omega)]
    exact q_frac hb (by omega) (kpow10 hr).2 (Nat.lt_of_le_of_lt (show 10 ^ r ≤ 10 ^ 6 from Nat.pow_le_pow_right (by decide) hr) (by decide))
  | n + 1, j, ab, gT, Z, tr, hj, hb => by
    have h64 := kpow2 hr
    have hj64 : j < 64 := by omega
    obtain ⟨v, hv, ev⟩ := kweight (r := r) (x := x) (j := j) hr hx (by omega)
    have ebc : kBC (nI j) = r_X7_ones (nI j) := kbc ⟨j, hj64⟩
    have hT := rT_run (rT_luck (t := tr) h Z hj64) k40
    have up : r_X6_areUpWithLost gN (nI j) = r_X5_areBothUp ((s_X5_run_g (kg (gN 0) (gN 1) (gN 2) (gN 3) (upd (gN 4) 3 (nI j))) k40) 0) ((s_X5_run_g (kg (gN 0) (gN 1) (gN 2) (gN 3) (upd (gN 4) 3 (nI j))) k40) 1) := by unfold r_X6_areUpWithLost; rw [h40]
    rw [luck_step, l_X7_luck_ok_1_r, ebc, kpower2, kpower2, ev, up]
    generalize s_X5_run_g (kg (gN 0) (gN 1) (gN 2) (gN 3) (upd (gN 4) 3 (nI j))) k40 = g at hT ⊢
    generalize s_X7_goFor_Z (upd (upd (upd (upd (upd Z 18 (-9)) 20 0) 21 6) 20 (nI j)) 21 0) (s_X7_lay_t pg tr) k40 = Z1 at hT ⊢
    generalize s_X7_goFor_f (upd (upd (upd (upd (upd Z 18 (-9)) 20 0) 21 6) 20 (nI j)) 21 0) (s_X7_lay_t pg tr) k40 = w at hT ⊢
    have e5 : w 5 = g 0 5 := hT.1.2.2.2.2.2.1
    have e21 : w 21 = g 1 5 := hT.2.1.2.2.2.2.2.1
    have hb0 := kluck0 (j := j) hb
    have hb1 : kBd (1000000 * (j + 1)) (ab + nI v) := by rw [← ev]; exact kluck hr hx (by omega) hb
    have i0 : ∀ gT2, l_X6_luck_1_r gN (nI r) (nI x) p2 n (j + 1) ab gT2 = l_X7_luck_ok_1_r pg r x p2 k40 n (j + 1) (ab + 0) Z1 w := fun gT2 => by
      rw [Int32.add_zero] at hb0 ⊢
      exact q_lk h hr hx p2 k40 h40 n (j + 1) ab gT2 Z1 w (by omega) hb0
    have i1 : ∀ gT2, l_X6_luck_1_r gN (nI r) (nI x) p2 n (j + 1) (ab + nI v) gT2 = l_X7_luck_ok_1_r pg r x p2 k40 n (j + 1) (ab + nI v) Z1 w := fun gT2 => q_lk h hr hx p2 k40 h40 n (j + 1) _ gT2 Z1 w (by omega) hb1
    rw [e5, e21]
    unfold r_X5_areBothUp
    by_cases c0 : nI v ≤ 0
    · have v0 : v = 0 := by
        have := (nI_leI (a := v) (b := 0) (by omega) (by decide)).mp c0
        omega
      subst v0
      rw [if_pos c0]
      by_cases c1 : g 0 5 = 2
      · rw [if_pos c1]
        by_cases c2 : g 1 5 = 2
        · rw [if_pos c2]; exact i0 _
        · rw [if_neg c2]; exact i0 _
      · rw [if_neg c1]; exact i0 _
    · rw [if_neg c0]
      by_cases c1 : g 0 5 = 2
      · rw [if_pos c1, if_pos c1]
        by_cases c2 : g 1 5 = 2
        · rw [if_pos c2, if_pos c2, if_neg (show ¬ (1 : Int32) = 0 by decide)]; exact i1 _
        · rw [if_neg c2, if_neg c2, if_pos rfl]; exact i0 _
      · rw [if_neg c1, if_neg c1, if_pos rfl]; exact i0 _
theorem q_luck {gN : Nat → Nat → Int32} {pg : Nat → Int32} (h : rW gN pg) (gT : Nat → Nat → Int32) (Z tr : Nat → Int32) {r x : Nat} (hr : r ≤ 6) (hx : x ≤ 10) (p2 k40 : Int32) (h40 : k40 = 40) : r_X6_luck gN gT (nI r) (nI x) p2 = r_X7_luck_ok Z pg tr r x p2 k40 := by
  unfold r_X6_luck r_X7_luck_ok
  have h64 := kpow2 hr
  rw [if_neg (show ¬ nI r < 0 from nI_pos (by omega)), if_neg (show ¬ 6 < nI r from nI_nlt (b := r) (a := 6) hr (by decide)), if_neg (show ¬ nI x < 0 from nI_pos (by omega)), if_pos (show nI x ≤ 10 from nI_le (b := 10) hx (by decide)), show kShl 1 (nI r) = nI (2 ^ r) from kshl1 ⟨r, by omega⟩, nI_clamp (by omega)]
  exact q_lk h hr hx p2 k40 h40 (2 ^ r) 0 0 gT _ tr (by omega) (kBd_le kBd_0 (by omega))
