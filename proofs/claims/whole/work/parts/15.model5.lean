theorem wb_tb (n : Nat) : (lN n).toBitVec = BitVec.ofNat 64 n := rfl
theorem wb_inj {a b : Int64} (h : a.toBitVec = b.toBitVec) : a = b := Int64.toBitVec_inj.mp h
theorem wb_tn {n : Nat} (h : n < 2 ^ 64) : (lN n).toBitVec.toNat = n := by rw [wb_tb, BitVec.toNat_ofNat, Nat.mod_eq_of_lt h]
theorem wb_of (x : Int64) : ∃ n, n < 2 ^ 64 ∧ x = lN n := ⟨x.toBitVec.toNat, x.toBitVec.isLt, wb_inj (by rw [wb_tb]; simp)⟩
theorem wb_cu : ∀ k, k < 64 → ((nI k).toInt64.toUInt64 &&& Int64.toUInt64 63) = UInt64.ofNat k := by decide +kernel
theorem wb_shr {n k : Nat} (hn : n < 2 ^ 64) (hk : k < 64) : ((lN n).toUInt64 >>> ((nI k).toInt64.toUInt64 &&& Int64.toUInt64 63)).toInt64 = lN (n / 2 ^ k) := by
  rw [wb_cu k hk]
  apply wb_inj
  apply BitVec.eq_of_toNat_eq
  show ((lN n).toUInt64 >>> UInt64.ofNat k).toNat = (BitVec.ofNat 64 _).toNat
  have h1 : (UInt64.ofNat k).toNat = k := by
    show (BitVec.ofNat 64 k).toNat = k
    rw [BitVec.toNat_ofNat, Nat.mod_eq_of_lt (by omega)]
  have h2 : (lN n).toUInt64.toNat = n := wb_tn hn
  rw [UInt64.toNat_shiftRight, h1, h2, Nat.mod_eq_of_lt hk, Nat.shiftRight_eq_div_pow, BitVec.toNat_ofNat, Nat.mod_eq_of_lt (Nat.lt_of_le_of_lt (Nat.div_le_self _ _) hn)]
/-- what is drawn is a whole number below 2 to the 31 -/
theorem kdr_nat (x : Int64) : ∃ k : Nat, k < 2 ^ 31 ∧ (kUshrL x 33).toInt32 = nI k := by
  obtain ⟨n, hn, rfl⟩ := wb_of x
  refine ⟨n / 2 ^ 33, ?_, ?_⟩
  · omega
  · unfold kUshrL
    rw [show (33 : Int32) = nI 33 from rfl, wb_shr hn (by decide)]
    exact lN_i _
theorem kRem_nat {a b : Nat} (ha : a < 2 ^ 31) (h0 : 0 < b) (hb : b < 2 ^ 31) : kRem (nI a) (nI b) = nI (a % b) := pk_rem ha h0 hb
theorem kdr1 (x : Int64) (h : ¬ kRem ((kUshrL x 33).toInt32 / 16) 2 = 0) : kRem ((kUshrL x 33).toInt32 / 16) 2 = 1 := by
  obtain ⟨k, hk, e⟩ := kdr_nat x
  have e2 : kRem ((kUshrL x 33).toInt32 / 16) 2 = nI (k / 16 % 2) := by
    rw [e, show (16 : Int32) = nI 16 from rfl, pk_div hk (by decide) (by decide), show (2 : Int32) = nI 2 from rfl, kRem_nat (by omega) (by decide) (by decide)]
  rw [e2] at h ⊢
  rcases (show k / 16 % 2 = 0 ∨ k / 16 % 2 = 1 by omega) with q | q
  · exact absurd (by rw [q]; rfl) h
  · rw [q]; rfl
def kF (p0 : Int32) : Nat := if p0.toNatClampNeg ≤ 1 then 2 else p0.toNatClampNeg + 1
theorem kclamp_lt (p0 : Int32) : p0.toNatClampNeg < 2 ^ 31 := by
  have := Int32.toInt_lt p0
  have e : p0.toNatClampNeg = p0.toInt.toNat := rfl
  omega
theorem kclamp_le (p0 : Int32) : p0 ≤ nI p0.toNatClampNeg := krun_z rfl
theorem kF_ge (p0 : Int32) : 2 ≤ kF p0 := by unfold kF; split <;> omega
theorem kF_z {p0 : Int32} {j : Nat} (hp : p0.toNatClampNeg ≤ 100) (hj : j + 0 = kF p0) (h2 : 2 ≤ j) : p0 < nI j := by
  have h3 : p0.toNatClampNeg < j := by unfold kF at hj; split at hj <;> omega
  have h4 : j ≤ p0.toNatClampNeg + 2 := by unfold kF at hj; split at hj <;> omega
  exact Int32.lt_of_le_of_lt (kclamp_le p0) (nI_lt h3 (by omega))
theorem kF_s {p0 : Int32} {j n : Nat} (hj : j + (n + 1) = kF p0) (h2 : 2 ≤ j) : ¬ p0 < nI j := by
  have h1 := kclamp_lt p0
  unfold kF at hj
  split at hj
  · omega
  · intro q
    rcases Int32.lt_or_le p0 0 with h | h
    · have e : p0.toNatClampNeg = p0.toInt.toNat := rfl
      have := Int32.lt_iff_toInt_lt.mp h
      simp at this
      omega
    · obtain ⟨k, hk, rfl⟩ := nI_of (x := p0) (fun q => Int32.lt_irrefl (Int32.lt_of_lt_of_le q h))
      rw [nI_clamp hk] at *
      have := (nI_ltI hk (by omega)).mp q
      omega

set_option maxHeartbeats 4000000 in
set_option maxRecDepth 100000 in
theorem c_X7_longPower_0 (l : Launch) (G : kG) : cG l G yX7_longPower cX7_longPower 6 (some .long) 0 [.long 1000, .int 0] ([]) (qL G (fun (r : Int64) (_ : Unit) => r = 1) (fun _ => [])) := by
  refine kintro (by decide) (Nat.le_of_ble_eq_true rfl) ?_
  intro p e s m args below meth c A ls kx hK hP hD hS hA hl
  have kx : kX p s m args meth c cX7_longPower 6 (some .long) RX7 := kx
  have hx := kx.1
  have hb := kx.2.1
  have hown := kx.2.2.2.2.1
  have ht := kx.2.2.2.2.2.2
  have hl : lv_has ls 6 [(0, .long 1000), (2, .int 0)] := hl
  refine lv_lconst (v := 1) hx hb dX7_longPower_0 (by decide) ?_
  refine lv_lstore_n (lv' := [(3, .long 1), (0, .long 1000), (2, .int 0)]) hx hb dX7_longPower_1 rfl hl (by decide) rfl (fun ls1 hl1 => ?_)
  refine lv_iconst (v := 0) hx hb dX7_longPower_2 (by decide) ?_
  refine lv_istore (lv' := [(5, .int 0), (3, .long 1), (0, .long 1000), (2, .int 0)]) hx hb dX7_longPower_3 hl1 (by decide) rfl (fun ls2 hl2 => ?_)
  refine lv_iload hx hb dX7_longPower_5 (lv_at hl2 0 rfl) ?_
  refine lv_iload_n hx hb dX7_longPower_7 rfl (lv_at hl2 3 rfl) ?_
  refine lv_icmp_ge (x := 0) (y := 0) (tgt := 21) hx hb dX7_longPower_8 (by decide) (fun (c1 : 0 ≤ 0) => ?_) (fun (c1 : ¬ (0 ≤ 0)) => absurd (by decide) c1)
  refine lv_lload_n hx hb dX7_longPower_21 rfl (lv_at hl2 1 rfl) ?_
  exact k_lret kx hK hP hD hS (u := ()) rfl rfl dX7_longPower_22

set_option maxHeartbeats 4000000 in
set_option maxRecDepth 100000 in
theorem c_X7_longPower_1 (l : Launch) (G : kG) : cG l G yX7_longPower cX7_longPower 6 (some .long) 0 [.long 1000, .int 1] ([]) (qL G (fun (r : Int64) (_ : Unit) => r = 1000) (fun _ => [])) := by
  refine kintro (by decide) (Nat.le_of_ble_eq_true rfl) ?_
  intro p e s m args below meth c A ls kx hK hP hD hS hA hl
  have kx : kX p s m args meth c cX7_longPower 6 (some .long) RX7 := kx
  have hx := kx.1
  have hb := kx.2.1
  have hown := kx.2.2.2.2.1
  have ht := kx.2.2.2.2.2.2
  have hl : lv_has ls 6 [(0, .long 1000), (2, .int 1)] := hl
  refine lv_lconst (v := 1) hx hb dX7_longPower_0 (by decide) ?_
  refine lv_lstore_n (lv' := [(3, .long 1), (0, .long 1000), (2, .int 1)]) hx hb dX7_longPower_1 rfl hl (by decide) rfl (fun ls1 hl1 => ?_)
  refine lv_iconst (v := 0) hx hb dX7_longPower_2 (by decide) ?_
  refine lv_istore (lv' := [(5, .int 0), (3, .long 1), (0, .long 1000), (2, .int 1)]) hx hb dX7_longPower_3 hl1 (by decide) rfl (fun ls2 hl2 => ?_)
  refine lv_iload hx hb dX7_longPower_5 (lv_at hl2 0 rfl) ?_
  refine lv_iload_n hx hb dX7_longPower_7 rfl (lv_at hl2 3 rfl) ?_
  refine lv_icmp_ge (x := 0) (y := 1) (tgt := 21) hx hb dX7_longPower_8 (by decide) (fun (c1 : 1 ≤ 0) => absurd c1 (by decide)) (fun (c1 : ¬ (1 ≤ 0)) => ?_)
  refine lv_lload_n hx hb dX7_longPower_11 rfl (lv_at hl2 1 rfl) ?_
  refine lv_lload_n hx hb dX7_longPower_12 rfl (lv_at hl2 2 rfl) ?_
  refine lv_lmul hx hb dX7_longPower_13 ?_
  refine k_topl (y := 1000) (by decide +kernel) ?_
  refine lv_lstore_n (lv' := [(3, .long 1000), (5, .int 0), (0, .long 1000), (2, .int 1)]) hx hb dX7_longPower_14 rfl hl2 (by decide) rfl (fun ls3 hl3 => ?_)
  refine lv_iinc (v := 1) (lv' := [(5, .int 1), (3, .long 1000), (0, .long 1000), (2, .int 1)]) hx hb dX7_longPower_15 hl3 (k := 1) rfl (by decide +kernel) (by decide) rfl (fun ls4 hl4 => ?_)
  refine lv_goto (tgt := 5) hx hb dX7_longPower_18 (by decide) ?_
  refine lv_iload hx hb dX7_longPower_5 (lv_at hl4 0 rfl) ?_
  refine lv_iload_n hx hb dX7_longPower_7 rfl (lv_at hl4 3 rfl) ?_
  refine lv_icmp_ge (x := 1) (y := 1) (tgt := 21) hx hb dX7_longPower_8 (by decide) (fun (c2 : 1 ≤ 1) => ?_) (fun (c2 : ¬ (1 ≤ 1)) => absurd (by decide) c2)
  refine lv_lload_n hx hb dX7_longPower_21 rfl (lv_at hl4 1 rfl) ?_
  exact k_lret kx hK hP hD hS (u := ()) rfl rfl dX7_longPower_22

set_option maxHeartbeats 4000000 in
set_option maxRecDepth 100000 in
theorem c_X7_longPower_2 (l : Launch) (G : kG) : cG l G yX7_longPower cX7_longPower 6 (some .long) 0 [.long 1000, .int 2] ([]) (qL G (fun (r : Int64) (_ : Unit) => r = 1000000) (fun _ => [])) := by
  refine kintro (by decide) (Nat.le_of_ble_eq_true rfl) ?_
  intro p e s m args below meth c A ls kx hK hP hD hS hA hl
  have kx : kX p s m args meth c cX7_longPower 6 (some .long) RX7 := kx
  have hx := kx.1
  have hb := kx.2.1
  have hown := kx.2.2.2.2.1
  have ht := kx.2.2.2.2.2.2
  have hl : lv_has ls 6 [(0, .long 1000), (2, .int 2)] := hl
  refine lv_lconst (v := 1) hx hb dX7_longPower_0 (by decide) ?_
  refine lv_lstore_n (lv' := [(3, .long 1), (0, .long 1000), (2, .int 2)]) hx hb dX7_longPower_1 rfl hl (by decide) rfl (fun ls1 hl1 => ?_)
  refine lv_iconst (v := 0) hx hb dX7_longPower_2 (by decide) ?_
  refine lv_istore (lv' := [(5, .int 0), (3, .long 1), (0, .long 1000), (2, .int 2)]) hx hb dX7_longPower_3 hl1 (by decide) rfl (fun ls2 hl2 => ?_)
  refine lv_iload hx hb dX7_longPower_5 (lv_at hl2 0 rfl) ?_
  refine lv_iload_n hx hb dX7_longPower_7 rfl (lv_at hl2 3 rfl) ?_
  refine lv_icmp_ge (x := 0) (y := 2) (tgt := 21) hx hb dX7_longPower_8 (by decide) (fun (c1 : 2 ≤ 0) => absurd c1 (by decide)) (fun (c1 : ¬ (2 ≤ 0)) => ?_)
  refine lv_lload_n hx hb dX7_longPower_11 rfl (lv_at hl2 1 rfl) ?_
  refine lv_lload_n hx hb dX7_longPower_12 rfl (lv_at hl2 2 rfl) ?_
  refine lv_lmul hx hb dX7_longPower_13 ?_
  refine k_topl (y := 1000) (by decide +kernel) ?_
  refine lv_lstore_n (lv' := [(3, .long 1000), (5, .int 0), (0, .long 1000), (2, .int 2)]) hx hb dX7_longPower_14 rfl hl2 (by decide) rfl (fun ls3 hl3 => ?_)
  refine lv_iinc (v := 1) (lv' := [(5, .int 1), (3, .long 1000), (0, .long 1000), (2, .int 2)]) hx hb dX7_longPower_15 hl3 (k := 1) rfl (by decide +kernel) (by decide) rfl (fun ls4 hl4 => ?_)
  refine lv_goto (tgt := 5) hx hb dX7_longPower_18 (by decide) ?_
  refine lv_iload hx hb dX7_longPower_5 (lv_at hl4 0 rfl) ?_
  refine lv_iload_n hx hb dX7_longPower_7 rfl (lv_at hl4 3 rfl) ?_
  refine lv_icmp_ge (x := 1) (y := 2) (tgt := 21) hx hb dX7_longPower_8 (by decide) (fun (c2 : 2 ≤ 1) => absurd c2 (by decide)) (fun (c2 : ¬ (2 ≤ 1)) => ?_)
  refine lv_lload_n hx hb dX7_longPower_11 rfl (lv_at hl4 1 rfl) ?_
  refine lv_lload_n hx hb dX7_longPower_12 rfl (lv_at hl4 2 rfl) ?_
  refine lv_lmul hx hb dX7_longPower_13 ?_
  refine k_topl (y := 1000000) (by decide +kernel) ?_
  refine lv_lstore_n (lv' := [(3, .long 1000000), (5, .int 1), (0, .long 1000), (2, .int 2)]) hx hb dX7_longPower_14 rfl hl4 (by decide) rfl (fun ls5 hl5 => ?_)
  refine lv_iinc (v := 2) (lv' := [(5, .int 2), (3, .long 1000000), (0, .long 1000), (2, .int 2)]) hx hb dX7_longPower_15 hl5 (k := 1) rfl (by decide +kernel) (by decide) rfl (fun ls6 hl6 => ?_)
  refine lv_goto (tgt := 5) hx hb dX7_longPower_18 (by decide) ?_
  refine lv_iload hx hb dX7_longPower_5 (lv_at hl6 0 rfl) ?_
  refine lv_iload_n hx hb dX7_longPower_7 rfl (lv_at hl6 3 rfl) ?_
  refine lv_icmp_ge (x := 2) (y := 2) (tgt := 21) hx hb dX7_longPower_8 (by decide) (fun (c3 : 2 ≤ 2) => ?_) (fun (c3 : ¬ (2 ≤ 2)) => absurd (by decide) c3)
  refine lv_lload_n hx hb dX7_longPower_21 rfl (lv_at hl6 1 rfl) ?_
  exact k_lret kx hK hP hD hS (u := ()) rfl rfl dX7_longPower_22

set_option maxHeartbeats 4000000 in
set_option maxRecDepth 100000 in
theorem c_X7_longPower_3 (l : Launch) (G : kG) : cG l G yX7_longPower cX7_longPower 6 (some .long) 0 [.long 1000, .int 3] ([]) (qL G (fun (r : Int64) (_ : Unit) => r = 1000000000) (fun _ => [])) := by
  refine kintro (by decide) (Nat.le_of_ble_eq_true rfl) ?_
  intro p e s m args below meth c A ls kx hK hP hD hS hA hl
  have kx : kX p s m args meth c cX7_longPower 6 (some .long) RX7 := kx
  have hx := kx.1
  have hb := kx.2.1
  have hown := kx.2.2.2.2.1
  have ht := kx.2.2.2.2.2.2
  have hl : lv_has ls 6 [(0, .long 1000), (2, .int 3)] := hl
  refine lv_lconst (v := 1) hx hb dX7_longPower_0 (by decide) ?_
  refine lv_lstore_n (lv' := [(3, .long 1), (0, .long 1000), (2, .int 3)]) hx hb dX7_longPower_1 rfl hl (by decide) rfl (fun ls1 hl1 => ?_)
  refine lv_iconst (v := 0) hx hb dX7_longPower_2 (by decide) ?_
  refine lv_istore (lv' := [(5, .int 0), (3, .long 1), (0, .long 1000), (2, .int 3)]) hx hb dX7_longPower_3 hl1 (by decide) rfl (fun ls2 hl2 => ?_)
  refine lv_iload hx hb dX7_longPower_5 (lv_at hl2 0 rfl) ?_
  refine lv_iload_n hx hb dX7_longPower_7 rfl (lv_at hl2 3 rfl) ?_
  refine lv_icmp_ge (x := 0) (y := 3) (tgt := 21) hx hb dX7_longPower_8 (by decide) (fun (c1 : 3 ≤ 0) => absurd c1 (by decide)) (fun (c1 : ¬ (3 ≤ 0)) => ?_)
  refine lv_lload_n hx hb dX7_longPower_11 rfl (lv_at hl2 1 rfl) ?_
  refine lv_lload_n hx hb dX7_longPower_12 rfl (lv_at hl2 2 rfl) ?_
  refine lv_lmul hx hb dX7_longPower_13 ?_
  refine k_topl (y := 1000) (by decide +kernel) ?_
  refine lv_lstore_n (lv' := [(3, .long 1000), (5, .int 0), (0, .long 1000), (2, .int 3)]) hx hb dX7_longPower_14 rfl hl2 (by decide) rfl (fun ls3 hl3 => ?_)
  refine lv_iinc (v := 1) (lv' := [(5, .int 1), (3, .long 1000), (0, .long 1000), (2, .int 3)]) hx hb dX7_longPower_15 hl3 (k := 1) rfl (by decide +kernel) (by decide) rfl (fun ls4 hl4 => ?_)
  refine lv_goto (tgt := 5) hx hb dX7_longPower_18 (by decide) ?_
  refine lv_iload hx hb dX7_longPower_5 (lv_at hl4 0 rfl) ?_
  refine lv_iload_n hx hb dX7_longPower_7 rfl (lv_at hl4 3 rfl) ?_
  refine lv_icmp_ge (x := 1) (y := 3) (tgt := 21) hx hb dX7_longPower_8 (by decide) (fun (c2 : 3 ≤ 1) => absurd c2 (by decide)) (fun (c2 : ¬ (3 ≤ 1)) => ?_)
  refine lv_lload_n hx hb dX7_longPower_11 rfl (lv_at hl4 1 rfl) ?_
  refine lv_lload_n hx hb dX7_longPower_12 rfl (lv_at hl4 2 rfl) ?_
  refine lv_lmul hx hb dX7_longPower_13 ?_
  refine k_topl (y := 1000000) (by decide +kernel) ?_
  refine lv_lstore_n (lv' := [(3, .long 1000000), (5, .int 1), (0, .long 1000), (2, .int 3)]) hx hb dX7_longPower_14 rfl hl4 (by decide) rfl (fun ls5 hl5 => ?_)
  refine lv_iinc (v := 2) (lv' := [(5, .int 2), (3, .long 1000000), (0, .long 1000), (2, .int 3)]) hx hb dX7_longPower_15 hl5 (k := 1) rfl (by decide +kernel) (by decide) rfl (fun ls6 hl6 => ?_)
  refine lv_goto (tgt := 5) hx hb dX7_longPower_18 (by decide) ?_
  refine lv_iload hx hb dX7_longPower_5 (lv_at hl6 0 rfl) ?_
  refine lv_iload_n hx hb dX7_longPower_7 rfl (lv_at hl6 3 rfl) ?_
  refine lv_icmp_ge (x := 2) (y := 3) (tgt := 21) hx hb dX7_longPower_8 (by decide) (fun (c3 : 3 ≤ 2) => absurd c3 (by decide)) (fun (c3 : ¬ (3 ≤ 2)) => ?_)
  refine lv_lload_n hx hb dX7_longPower_11 rfl (lv_at hl6 1 rfl) ?_
  refine lv_lload_n hx hb dX7_longPower_12 rfl (lv_at hl6 2 rfl) ?_
  refine lv_lmul hx hb dX7_longPower_13 ?_
  refine k_topl (y := 1000000000) (by decide +kernel) ?_
  refine lv_lstore_n (lv' := [(3, .long 1000000000), (5, .int 2), (0, .long 1000), (2, .int 3)]) hx hb dX7_longPower_14 rfl hl6 (by decide) rfl (fun ls7 hl7 => ?_)
  refine lv_iinc (v := 3) (lv' := [(5, .int 3), (3, .long 1000000000), (0, .long 1000), (2, .int 3)]) hx hb dX7_longPower_15 hl7 (k := 1) rfl (by decide +kernel) (by decide) rfl (fun ls8 hl8 => ?_)
  refine lv_goto (tgt := 5) hx hb dX7_longPower_18 (by decide) ?_
  refine lv_iload hx hb dX7_longPower_5 (lv_at hl8 0 rfl) ?_
  refine lv_iload_n hx hb dX7_longPower_7 rfl (lv_at hl8 3 rfl) ?_
  refine lv_icmp_ge (x := 3) (y := 3) (tgt := 21) hx hb dX7_longPower_8 (by decide) (fun (c4 : 3 ≤ 3) => ?_) (fun (c4 : ¬ (3 ≤ 3)) => absurd (by decide) c4)
  refine lv_lload_n hx hb dX7_longPower_21 rfl (lv_at hl8 1 rfl) ?_
  exact k_lret kx hK hP hD hS (u := ()) rfl rfl dX7_longPower_22

set_option maxHeartbeats 4000000 in
set_option maxRecDepth 100000 in
theorem c_X7_longPower_4 (l : Launch) (G : kG) : cG l G yX7_longPower cX7_longPower 6 (some .long) 0 [.long 1000, .int 4] ([]) (qL G (fun (r : Int64) (_ : Unit) => r = 1000000000000) (fun _ => [])) := by
  refine kintro (by decide) (Nat.le_of_ble_eq_true rfl) ?_
  intro p e s m args below meth c A ls kx hK hP hD hS hA hl
  have kx : kX p s m args meth c cX7_longPower 6 (some .long) RX7 := kx
  have hx := kx.1
  have hb := kx.2.1
  have hown := kx.2.2.2.2.1
  have ht := kx.2.2.2.2.2.2
  have hl : lv_has ls 6 [(0, .long 1000), (2, .int 4)] := hl
  refine lv_lconst (v := 1) hx hb dX7_longPower_0 (by decide) ?_
  refine lv_lstore_n (lv' := [(3, .long 1), (0, .long 1000), (2, .int 4)]) hx hb dX7_longPower_1 rfl hl (by decide) rfl (fun ls1 hl1 => ?_)
  refine lv_iconst (v := 0) hx hb dX7_longPower_2 (by decide) ?_
  refine lv_istore (lv' := [(5, .int 0), (3, .long 1), (0, .long 1000), (2, .int 4)]) hx hb dX7_longPower_3 hl1 (by decide) rfl (fun ls2 hl2 => ?_)
  refine lv_iload hx hb dX7_longPower_5 (lv_at hl2 0 rfl) ?_
  refine lv_iload_n hx hb dX7_longPower_7 rfl (lv_at hl2 3 rfl) ?_
  refine lv_icmp_ge (x := 0) (y := 4) (tgt := 21) hx hb dX7_longPower_8 (by decide) (fun (c1 : 4 ≤ 0) => absurd c1 (by decide)) (fun (c1 : ¬ (4 ≤ 0)) => ?_)
  refine lv_lload_n hx hb dX7_longPower_11 rfl (lv_at hl2 1 rfl) ?_
  refine lv_lload_n hx hb dX7_longPower_12 rfl (lv_at hl2 2 rfl) ?_
  refine lv_lmul hx hb dX7_longPower_13 ?_
  refine k_topl (y := 1000) (by decide +kernel) ?_
  refine lv_lstore_n (lv' := [(3, .long 1000), (5, .int 0), (0, .long 1000), (2, .int 4)]) hx hb dX7_longPower_14 rfl hl2 (by decide) rfl (fun ls3 hl3 => ?_)
  refine lv_iinc (v := 1) (lv' := [(5, .int 1), (3, .long 1000), (0, .long 1000), (2, .int 4)]) hx hb dX7_longPower_15 hl3 (k := 1) rfl (by decide +kernel) (by decide) rfl (fun ls4 hl4 => ?_)
  refine lv_goto (tgt := 5) hx hb dX7_longPower_18 (by decide) ?_
  refine lv_iload hx hb dX7_longPower_5 (lv_at hl4 0 rfl) ?_
  refine lv_iload_n hx hb dX7_longPower_7 rfl (lv_at hl4 3 rfl) ?_
  refine lv_icmp_ge (x := 1) (y := 4) (tgt := 21) hx hb dX7_longPower_8 (by decide) (fun (c2 : 4 ≤ 1) => absurd c2 (by decide)) (fun (c2 : ¬ (4 ≤ 1)) => ?_)
  refine lv_lload_n hx hb dX7_longPower_11 rfl (lv_at hl4 1 rfl) ?_
  refine lv_lload_n hx hb dX7_longPower_12 rfl (lv_at hl4 2 rfl) ?_
  refine lv_lmul hx hb dX7_longPower_13 ?_
  refine k_topl (y := 1000000) (by decide +kernel) ?_
  refine lv_lstore_n (lv' := [(3, .long 1000000), (5, .int 1), (0, .long 1000), (2, .int 4)]) hx hb dX7_longPower_14 rfl hl4 (by decide) rfl (fun ls5 hl5 => ?_)
  refine lv_iinc (v := 2) (lv' := [(5, .int 2), (3, .long 1000000), (0, .long 1000), (2, .int 4)]) hx hb dX7_longPower_15 hl5 (k := 1) rfl (by decide +kernel) (by decide) rfl (fun ls6 hl6 => ?_)
  refine lv_goto (tgt := 5) hx hb dX7_longPower_18 (by decide) ?_
  refine lv_iload hx hb dX7_longPower_5 (lv_at hl6 0 rfl) ?_
  refine lv_iload_n hx hb dX7_longPower_7 rfl (lv_at hl6 3 rfl) ?_
  refine lv_icmp_ge (x := 2) (y := 4) (tgt := 21) hx hb dX7_longPower_8 (by decide) (fun (c3 : 4 ≤ 2) => absurd c3 (by decide)) (fun (c3 : ¬ (4 ≤ 2)) => ?_)
  refine lv_lload_n hx hb dX7_longPower_11 rfl (lv_at hl6 1 rfl) ?_
  refine lv_lload_n hx hb dX7_longPower_12 rfl (lv_at hl6 2 rfl) ?_
  refine lv_lmul hx hb dX7_longPower_13 ?_
  refine k_topl (y := 1000000000) (by decide +kernel) ?_
  refine lv_lstore_n (lv' := [(3, .long 1000000000), (5, .int 2), (0, .long 1000), (2, .int 4)]) hx hb dX7_longPower_14 rfl hl6 (by decide) rfl (fun ls7 hl7 => ?_)
  refine lv_iinc (v := 3) (lv' := [(5, .int 3), (3, .long 1000000000), (0, .long 1000), (2, .int 4)]) hx hb dX7_longPower_15 hl7 (k := 1) rfl (by decide +kernel) (by decide) rfl (fun ls8 hl8 => ?_)
  refine lv_goto (tgt := 5) hx hb dX7_longPower_18 (by decide) ?_
  refine lv_iload hx hb dX7_longPower_5 (lv_at hl8 0 rfl) ?_
  refine lv_iload_n hx hb dX7_longPower_7 rfl (lv_at hl8 3 rfl) ?_
  refine lv_icmp_ge (x := 3) (y := 4) (tgt := 21) hx hb dX7_longPower_8 (by decide) (fun (c4 : 4 ≤ 3) => absurd c4 (by decide)) (fun (c4 : ¬ (4 ≤ 3)) => ?_)
  refine lv_lload_n hx hb dX7_longPower_11 rfl (lv_at hl8 1 rfl) ?_
  refine lv_lload_n hx hb dX7_longPower_12 rfl (lv_at hl8 2 rfl) ?_
  refine lv_lmul hx hb dX7_longPower_13 ?_
  refine k_topl (y := 1000000000000) (by decide +kernel) ?_
  refine lv_lstore_n (lv' := [(3, .long 1000000000000), (5, .int 3), (0, .long 1000), (2, .int 4)]) hx hb dX7_longPower_14 rfl hl8 (by decide) rfl (fun ls9 hl9 => ?_)
  refine lv_iinc (v := 4) (lv' := [(5, .int 4), (3, .long 1000000000000), (0, .long 1000), (2, .int 4)]) hx hb dX7_longPower_15 hl9 (k := 1) rfl (by decide +kernel) (by decide) rfl (fun ls10 hl10 => ?_)
  refine lv_goto (tgt := 5) hx hb dX7_longPower_18 (by decide) ?_
  refine lv_iload hx hb dX7_longPower_5 (lv_at hl10 0 rfl) ?_
  refine lv_iload_n hx hb dX7_longPower_7 rfl (lv_at hl10 3 rfl) ?_
  refine lv_icmp_ge (x := 4) (y := 4) (tgt := 21) hx hb dX7_longPower_8 (by decide) (fun (c5 : 4 ≤ 4) => ?_) (fun (c5 : ¬ (4 ≤ 4)) => absurd (by decide) c5)
  refine lv_lload_n hx hb dX7_longPower_21 rfl (lv_at hl10 1 rfl) ?_
  exact k_lret kx hK hP hD hS (u := ()) rfl rfl dX7_longPower_22

set_option maxHeartbeats 4000000 in
set_option maxRecDepth 100000 in
theorem c_X7_in_114 (l : Launch) (G : kG) : cG l G yX7_in cX7_in 6 (some .boolean) 0 [.long 1, .long 1, .long 4] ([]) (qI G (fun (r : Int32) (_ : Unit) => r = 1) (fun _ => [])) := by
  refine kintro (by decide) (Nat.le_of_ble_eq_true rfl) ?_
  intro p e s m args below meth c A ls kx hK hP hD hS hA hl
  have kx : kX p s m args meth c cX7_in 6 (some .boolean) RX7 := kx
  have hx := kx.1
  have hb := kx.2.1
  have hown := kx.2.2.2.2.1
  have ht := kx.2.2.2.2.2.2
  have hl : lv_has ls 6 [(0, .long 1), (2, .long 1), (4, .long 4)] := hl
  refine lv_lload_n hx hb dX7_in_0 rfl (lv_at hl 0 rfl) ?_
  refine lv_lload_n hx hb dX7_in_1 rfl (lv_at hl 1 rfl) ?_
  refine W.lcmp hx hb dX7_in_2 ?_
  refine k_top (y := 0) (by decide +kernel) ?_
  refine lv_if_lt (x := 0) (tgt := 17) hx hb dX7_in_3 (by decide) (fun (c1 : 0 < 0) => absurd c1 (by decide)) (fun (c1 : ¬ (0 < 0)) => ?_)
  refine lv_lload_n hx hb dX7_in_6 rfl (lv_at hl 0 rfl) ?_
  refine lv_lload hx hb dX7_in_7 (lv_at hl 2 rfl) ?_
  refine W.lcmp hx hb dX7_in_9 ?_
  refine k_top (y := (-1)) (by decide +kernel) ?_
  refine lv_if_gt (x := (-1)) (tgt := 17) hx hb dX7_in_10 (by decide) (fun (c2 : 0 < (-1)) => absurd c2 (by decide)) (fun (c2 : ¬ (0 < (-1))) => ?_)
  refine lv_iconst (v := 1) hx hb dX7_in_13 (by decide) ?_
  refine lv_goto (tgt := 18) hx hb dX7_in_14 (by decide) ?_
  exact k_zret kx hK hP hD hS (u := ()) rfl rfl kb1 dX7_in_18

set_option maxHeartbeats 4000000 in
set_option maxRecDepth 100000 in
theorem c_X7_in_214 (l : Launch) (G : kG) : cG l G yX7_in cX7_in 6 (some .boolean) 0 [.long 2, .long 1, .long 4] ([]) (qI G (fun (r : Int32) (_ : Unit) => r = 1) (fun _ => [])) := by
  refine kintro (by decide) (Nat.le_of_ble_eq_true rfl) ?_
  intro p e s m args below meth c A ls kx hK hP hD hS hA hl
  have kx : kX p s m args meth c cX7_in 6 (some .boolean) RX7 := kx
  have hx := kx.1
  have hb := kx.2.1
  have hown := kx.2.2.2.2.1
  have ht := kx.2.2.2.2.2.2
  have hl : lv_has ls 6 [(0, .long 2), (2, .long 1), (4, .long 4)] := hl
  refine lv_lload_n hx hb dX7_in_0 rfl (lv_at hl 0 rfl) ?_
  refine lv_lload_n hx hb dX7_in_1 rfl (lv_at hl 1 rfl) ?_
  refine W.lcmp hx hb dX7_in_2 ?_
  refine k_top (y := 1) (by decide +kernel) ?_
  refine lv_if_lt (x := 1) (tgt := 17) hx hb dX7_in_3 (by decide) (fun (c1 : 1 < 0) => absurd c1 (by decide)) (fun (c1 : ¬ (1 < 0)) => ?_)
  refine lv_lload_n hx hb dX7_in_6 rfl (lv_at hl 0 rfl) ?_
  refine lv_lload hx hb dX7_in_7 (lv_at hl 2 rfl) ?_
  refine W.lcmp hx hb dX7_in_9 ?_
  refine k_top (y := (-1)) (by decide +kernel) ?_
  refine lv_if_gt (x := (-1)) (tgt := 17) hx hb dX7_in_10 (by decide) (fun (c2 : 0 < (-1)) => absurd c2 (by decide)) (fun (c2 : ¬ (0 < (-1))) => ?_)
  refine lv_iconst (v := 1) hx hb dX7_in_13 (by decide) ?_
  refine lv_goto (tgt := 18) hx hb dX7_in_14 (by decide) ?_
  exact k_zret kx hK hP hD hS (u := ()) rfl rfl kb1 dX7_in_18

set_option maxHeartbeats 4000000 in
set_option maxRecDepth 100000 in
theorem c_X7_in_314 (l : Launch) (G : kG) : cG l G yX7_in cX7_in 6 (some .boolean) 0 [.long 3, .long 1, .long 4] ([]) (qI G (fun (r : Int32) (_ : Unit) => r = 1) (fun _ => [])) := by
  refine kintro (by decide) (Nat.le_of_ble_eq_true rfl) ?_
  intro p e s m args below meth c A ls kx hK hP hD hS hA hl
  have kx : kX p s m args meth c cX7_in 6 (some .boolean) RX7 := kx
  have hx := kx.1
  have hb := kx.2.1
  have hown := kx.2.2.2.2.1
  have ht := kx.2.2.2.2.2.2
  have hl : lv_has ls 6 [(0, .long 3), (2, .long 1), (4, .long 4)] := hl
  refine lv_lload_n hx hb dX7_in_0 rfl (lv_at hl 0 rfl) ?_
  refine lv_lload_n hx hb dX7_in_1 rfl (lv_at hl 1 rfl) ?_
  refine W.lcmp hx hb dX7_in_2 ?_
  refine k_top (y := 1) (by decide +kernel) ?_
  refine lv_if_lt (x := 1) (tgt := 17) hx hb dX7_in_3 (by decide) (fun (c1 : 1 < 0) => absurd c1 (by decide)) (fun (c1 : ¬ (1 < 0)) => ?_)
  refine lv_lload_n hx hb dX7_in_6 rfl (lv_at hl 0 rfl) ?_
  refine lv_lload hx hb dX7_in_7 (lv_at hl 2 rfl) ?_
  refine W.lcmp hx hb dX7_in_9 ?_
  refine k_top (y := (-1)) (by decide +kernel) ?_
  refine lv_if_gt (x := (-1)) (tgt := 17) hx hb dX7_in_10 (by decide) (fun (c2 : 0 < (-1)) => absurd c2 (by decide)) (fun (c2 : ¬ (0 < (-1))) => ?_)
  refine lv_iconst (v := 1) hx hb dX7_in_13 (by decide) ?_
  refine lv_goto (tgt := 18) hx hb dX7_in_14 (by decide) ?_
  exact k_zret kx hK hP hD hS (u := ()) rfl rfl kb1 dX7_in_18

set_option maxHeartbeats 4000000 in
set_option maxRecDepth 100000 in
theorem c_X7_in_414 (l : Launch) (G : kG) : cG l G yX7_in cX7_in 6 (some .boolean) 0 [.long 4, .long 1, .long 4] ([]) (qI G (fun (r : Int32) (_ : Unit) => r = 1) (fun _ => [])) := by
  refine kintro (by decide) (Nat.le_of_ble_eq_true rfl) ?_
  intro p e s m args below meth c A ls kx hK hP hD hS hA hl
  have kx : kX p s m args meth c cX7_in 6 (some .boolean) RX7 := kx
  have hx := kx.1
  have hb := kx.2.1
  have hown := kx.2.2.2.2.1
  have ht := kx.2.2.2.2.2.2
  have hl : lv_has ls 6 [(0, .long 4), (2, .long 1), (4, .long 4)] := hl
  refine lv_lload_n hx hb dX7_in_0 rfl (lv_at hl 0 rfl) ?_
  refine lv_lload_n hx hb dX7_in_1 rfl (lv_at hl 1 rfl) ?_
  refine W.lcmp hx hb dX7_in_2 ?_
  refine k_top (y := 1) (by decide +kernel) ?_
  refine lv_if_lt (x := 1) (tgt := 17) hx hb dX7_in_3 (by decide) (fun (c1 : 1 < 0) => absurd c1 (by decide)) (fun (c1 : ¬ (1 < 0)) => ?_)
  refine lv_lload_n hx hb dX7_in_6 rfl (lv_at hl 0 rfl) ?_
  refine lv_lload hx hb dX7_in_7 (lv_at hl 2 rfl) ?_
  refine W.lcmp hx hb dX7_in_9 ?_
  refine k_top (y := 0) (by decide +kernel) ?_
  refine lv_if_gt (x := 0) (tgt := 17) hx hb dX7_in_10 (by decide) (fun (c2 : 0 < 0) => absurd c2 (by decide)) (fun (c2 : ¬ (0 < 0)) => ?_)
  refine lv_iconst (v := 1) hx hb dX7_in_13 (by decide) ?_
  refine lv_goto (tgt := 18) hx hb dX7_in_14 (by decide) ?_
  exact k_zret kx hK hP hD hS (u := ()) rfl rfl kb1 dX7_in_18

def r_X7_judge_1 (pg : Nat → Int32) (tr : Nat → Int32) (p1 : Int64) : Int32 := if (r_X7_in p1 0 999) = 0 then (-2) else if (r_X7_does (s_X7_lay_t pg tr) (((kRemL (p1 / 1) 1000).toInt32) / 100) (kRem (((kRemL (p1 / 1) 1000).toInt32) / 10) 10) (kRem ((kRemL (p1 / 1) 1000).toInt32) 10)) = 0 then 0 else (-9)
def s_X7_judge_1_Z (Z : Nat → Int32) (pg : Nat → Int32) (tr : Nat → Int32) (p1 : Int64) : Nat → Int32 := if (r_X7_in p1 0 999) = 0 then (upd Z 0 0) else if (r_X7_does (s_X7_lay_t pg tr) (((kRemL (p1 / 1) 1000).toInt32) / 100) (kRem (((kRemL (p1 / 1) 1000).toInt32) / 10) 10) (kRem ((kRemL (p1 / 1) 1000).toInt32) 10)) = 0 then (s_X7_does_Z (upd (upd (upd (upd Z 0 0) 18 (-9)) 20 0) 21 6) (s_X7_lay_t pg tr) (((kRemL (p1 / 1) 1000).toInt32) / 100) (kRem (((kRemL (p1 / 1) 1000).toInt32) / 10) 10) (kRem ((kRemL (p1 / 1) 1000).toInt32) 10)) else s_X7_does_Z (upd (upd (upd (upd Z 0 0) 18 (-9)) 20 0) 21 6) (s_X7_lay_t pg tr) (((kRemL (p1 / 1) 1000).toInt32) / 100) (kRem (((kRemL (p1 / 1) 1000).toInt32) / 10) 10) (kRem ((kRemL (p1 / 1) 1000).toInt32) 10)
def s_X7_judge_1_tr (Z : Nat → Int32) (pg : Nat → Int32) (tr : Nat → Int32) (p1 : Int64) : Nat → Int32 := if (r_X7_in p1 0 999) = 0 then tr else if (r_X7_does (s_X7_lay_t pg tr) (((kRemL (p1 / 1) 1000).toInt32) / 100) (kRem (((kRemL (p1 / 1) 1000).toInt32) / 10) 10) (kRem ((kRemL (p1 / 1) 1000).toInt32) 10)) = 0 then (s_X7_does_tr (upd (upd (upd (upd Z 0 0) 18 (-9)) 20 0) 21 6) (s_X7_lay_t pg tr) (((kRemL (p1 / 1) 1000).toInt32) / 100) (kRem (((kRemL (p1 / 1) 1000).toInt32) / 10) 10) (kRem ((kRemL (p1 / 1) 1000).toInt32) 10)) else s_X7_does_tr (upd (upd (upd (upd Z 0 0) 18 (-9)) 20 0) 21 6) (s_X7_lay_t pg tr) (((kRemL (p1 / 1) 1000).toInt32) / 100) (kRem (((kRemL (p1 / 1) 1000).toInt32) / 10) 10) (kRem ((kRemL (p1 / 1) 1000).toInt32) 10)
set_option maxHeartbeats 4000000 in
set_option maxRecDepth 100000 in
theorem c_X7_judge_1 (l : Launch) (G : kG) (Z : Nat → Int32) (sd : Int64) (h0 : Nat) (q1 : Nat) (q2 : Nat) (q3 : Nat) (q4 : Nat) (q5 : Nat) (q6 : Nat) (q7 : Nat) (q8 : Nat) (q9 : Nat) (q10 : Nat) (q11 : Nat) (pg : Nat → Int32) (tr : Nat → Int32) (p1 : Int64) : cG l G yX7_judge cX7_judge 6 (some .int) 7 [.ref h0, .int 1, .long p1] ([(h0, .inr (7, cM Z q1 q2 q3 q4 q5 q6 q7 q8 q9 q10 q11 sd)), (q4, .inl (G.2.1, 55, .inl pg)), (q5, .inl (G.2.1, 55, .inl tr))]) (qI G (fun (r : Int32) (u : ((Nat → Int32) × (Nat → Int32))) => r = r_X7_judge_1 pg tr p1 ∧ u.1 = s_X7_judge_1_Z Z pg tr p1 ∧ u.2 = s_X7_judge_1_tr Z pg tr p1) (fun u => [(h0, .inr (7, cM u.1 q1 q2 q3 q4 q5 q6 q7 q8 q9 q10 q11 sd)), (q4, .inl (G.2.1, 55, .inl pg)), (q5, .inl (G.2.1, 55, .inl u.2))])) := by
  refine kintro (by decide) (Nat.le_of_ble_eq_true rfl) ?_
  intro p e s m args below meth c A ls kx hK hP hD hS hA hl
  have kx : kX p s m args meth c cX7_judge 6 (some .int) RX7 := kx
  have hx := kx.1
  have hb := kx.2.1
  have hown := kx.2.2.2.2.1
  have ht := kx.2.2.2.2.2.2
  have hl : lv_has ls 6 [(0, .ref h0), (1, .int 1), (2, .long p1)] := hl
  refine lv_aload_n hx hb dX7_judge_0 rfl (lv_at hl 0 rfl) ?_
  refine lv_iconst (v := 0) hx hb dX7_judge_1 (by decide) ?_
  refine va_put (ci := 7) (v := .int 0) (ty := .int) (C := RX7) (T := TX7) (N := 22) hx hb ht inX7 tyX7 tyX7_ok nmX7 hown hK.1 hP hD hS 0 rfl rfl 0 (by decide) (ht _ q_666) (fun _ h9 => h9) rfl (by decide +kernel) rfl rfl (Nat.le_of_ble_eq_true rfl) dX7_judge_2 (fun H1 locs1 hP1 hD1 hS1 => ?_)
  have hP2 : va_P G.1 vwCl ([(h0, .inr (7, cM (upd Z 0 0) q1 q2 q3 q4 q5 q6 q7 q8 q9 q10 q11 sd)), (q4, .inl (G.2.1, 55, .inl pg)), (q5, .inl (G.2.1, 55, .inl tr))]) H1 := hP1
  have hD3 : va_D A ([(h0, .inr (7, cM (upd Z 0 0) q1 q2 q3 q4 q5 q6 q7 q8 q9 q10 q11 sd)), (q4, .inl (G.2.1, 55, .inl pg)), (q5, .inl (G.2.1, 55, .inl tr))]) := hD1
  refine lv_iload_n hx hb dX7_judge_5 rfl (lv_at hl 1 rfl) ?_
  refine lv_i2l (v := 1) hx hb dX7_judge_6 (by decide +kernel) ?_
  refine lv_lconst (v := 1) hx hb dX7_judge_7 (by decide) ?_
  refine lv_ldc2 (v := 4) hx hb hown (ht _ q_842) dX7_judge_8 ?_
  refine k_calli (kRunS (As := [.long 1, .long 1, .long 4]) (rest := []) kx (c_X7_in_114 l G ) q_740 q_738 q_36 q_739 nX7_in ⟨Nat.le_of_ble_eq_true rfl, Nat.le_of_ble_eq_true rfl⟩ hK hP2 hD3 (kCtx_nil _) rfl hl.1 (Nat.le_of_ble_eq_true rfl) dX7_judge_11 ⟨Nat.zero_le _, Nat.zero_le _⟩) hP2 hD3 hS1 hA (kCtx_nil _) (fun _ => rfl) (fun r1 _ H4 locs4 hw hP4 hD4 hS4 => ?_)
  have hr1 : 1 = r1 := (show r1 = 1 from hw).symm
  subst hr1
  have hP5 : va_P G.1 vwCl ([(h0, .inr (7, cM (upd Z 0 0) q1 q2 q3 q4 q5 q6 q7 q8 q9 q10 q11 sd)), (q4, .inl (G.2.1, 55, .inl pg)), (q5, .inl (G.2.1, 55, .inl tr))]) H4 := hP4
  have hD6 : va_D A ([(h0, .inr (7, cM (upd Z 0 0) q1 q2 q3 q4 q5 q6 q7 q8 q9 q10 q11 sd)), (q4, .inl (G.2.1, 55, .inl pg)), (q5, .inl (G.2.1, 55, .inl tr))]) := hD4
  refine lv_if_eq (x := 1) (tgt := 34) hx hb dX7_judge_14 (by decide) (fun (c2 : 1 = 0) => absurd c2 (by decide)) (fun (c2 : ¬ (1 = 0)) => ?_)
  refine lv_lload_n hx hb dX7_judge_17 rfl (lv_at hl 2 rfl) ?_
  refine lv_lconst (v := 0) hx hb dX7_judge_18 (by decide) ?_
  refine lv_ldc2 (v := 1000) hx hb hown (ht _ q_907) dX7_judge_19 ?_
  refine lv_iload_n hx hb dX7_judge_22 rfl (lv_at hl 1 rfl) ?_
  refine k_calll (kRunS (As := [.long 1000, .int 1]) (rest := [.long 0, .long p1]) kx (c_X7_longPower_1 l G ) q_910 q_908 q_36 q_909 nX7_longPower ⟨Nat.le_of_ble_eq_true rfl, Nat.le_of_ble_eq_true rfl⟩ hK hP5 hD6 (kCtx_nil _) rfl hl.1 (Nat.le_of_ble_eq_true rfl) dX7_judge_23 ⟨Nat.zero_le _, Nat.zero_le _⟩) hP5 hD6 hS4 hA (kCtx_nil _) (fun _ => rfl) (fun r3 _ H7 locs7 hw hP7 hD7 hS7 => ?_)
  have hr3 : 1000 = r3 := (show r3 = 1000 from hw).symm
  subst hr3
  have hP8 : va_P G.1 vwCl ([(h0, .inr (7, cM (upd Z 0 0) q1 q2 q3 q4 q5 q6 q7 q8 q9 q10 q11 sd)), (q4, .inl (G.2.1, 55, .inl pg)), (q5, .inl (G.2.1, 55, .inl tr))]) H7 := hP7
  have hD9 : va_D A ([(h0, .inr (7, cM (upd Z 0 0) q1 q2 q3 q4 q5 q6 q7 q8 q9 q10 q11 sd)), (q4, .inl (G.2.1, 55, .inl pg)), (q5, .inl (G.2.1, 55, .inl tr))]) := hD7
  refine lv_lconst (v := 1) hx hb dX7_judge_26 (by decide) ?_
  refine lv_lsub hx hb dX7_judge_27 ?_
  refine k_topl (y := 999) (by decide +kernel) ?_
  refine k_calli (kRunS (As := [.long p1, .long 0, .long 999]) (rest := []) kx (c_X7_in l G p1 0 999) q_740 q_738 q_36 q_739 nX7_in ⟨Nat.le_of_ble_eq_true rfl, Nat.le_of_ble_eq_true rfl⟩ hK hP8 hD9 (kCtx_nil _) rfl hl.1 (Nat.le_of_ble_eq_true rfl) dX7_judge_28 ⟨Nat.zero_le _, Nat.zero_le _⟩) hP8 hD9 hS7 hA (kCtx_nil _) (fun _ => rfl) (fun r4 _ H10 locs10 hw hP10 hD10 hS10 => ?_)
  have hr4 : r_X7_in p1 0 999 = r4 := (show r4 = r_X7_in p1 0 999 from hw).symm
  have hP11 : va_P G.1 vwCl ([(h0, .inr (7, cM (upd Z 0 0) q1 q2 q3 q4 q5 q6 q7 q8 q9 q10 q11 sd)), (q4, .inl (G.2.1, 55, .inl pg)), (q5, .inl (G.2.1, 55, .inl tr))]) H10 := hP10
  have hD12 : va_D A ([(h0, .inr (7, cM (upd Z 0 0) q1 q2 q3 q4 q5 q6 q7 q8 q9 q10 q11 sd)), (q4, .inl (G.2.1, 55, .inl pg)), (q5, .inl (G.2.1, 55, .inl tr))]) := hD10
  refine lv_if_ne (x := r4) (tgt := 37) hx hb dX7_judge_31 (by decide) (fun (c5 : ¬ (r4 = 0)) => ?_) (fun (c5 : r4 = 0) => ?_)
  · skip
    refine lv_aload_n hx hb dX7_judge_37 rfl (lv_at hl 0 rfl) ?_
    refine k_callv (kRunV (As := []) (rest := []) kx (c_X7_layTrial l G (upd Z 0 0) sd h0 q1 q2 q3 q4 q5 q6 q7 q8 q9 q10 q11 pg tr) q_774 q_771 q_36 q_773 q_16 nX7_layTrial ⟨Nat.le_of_ble_eq_true rfl, Nat.le_of_ble_eq_true rfl⟩ hK hP11 hD12 (kCtx_all _) 0 7 rfl rfl rfl rfl hl.1 (Nat.le_of_ble_eq_true rfl) dX7_judge_38 ⟨Nat.zero_le _, Nat.zero_le _⟩) hP11 hD12 hS10 hA (kCtx_all _) (fun _ => rfl) (fun _ H13 locs13 hw hP13 hD13 hS13 => ?_)
    have hP14 : va_P G.1 vwCl ([(h0, .inr (7, cM (upd (upd (upd (upd Z 0 0) 18 (-9)) 20 0) 21 6) q1 q2 q3 q4 q5 q6 q7 q8 q9 q10 q11 sd)), (q4, .inl (G.2.1, 55, .inl pg)), (q5, .inl (G.2.1, 55, .inl (s_X7_lay_t pg tr)))]) H13 := hP13
    have hD15 : va_D A ([(h0, .inr (7, cM (upd (upd (upd (upd Z 0 0) 18 (-9)) 20 0) 21 6) q1 q2 q3 q4 q5 q6 q7 q8 q9 q10 q11 sd)), (q4, .inl (G.2.1, 55, .inl pg)), (q5, .inl (G.2.1, 55, .inl (s_X7_lay_t pg tr)))]) := hD13
    refine lv_iconst (v := 0) hx hb dX7_judge_41 (by decide) ?_
    refine lv_istore (lv' := [(4, .int 0), (0, .ref h0), (1, .int 1), (2, .long p1)]) hx hb dX7_judge_42 hl (by decide) rfl (fun ls16 hl16 => ?_)
    refine lv_iload hx hb dX7_judge_44 (lv_at hl16 0 rfl) ?_
    refine lv_iload_n hx hb dX7_judge_46 rfl (lv_at hl16 2 rfl) ?_
    refine lv_icmp_ge (x := 0) (y := 1) (tgt := 105) hx hb dX7_judge_47 (by decide) (fun (c7 : 1 ≤ 0) => absurd c7 (by decide)) (fun (c7 : ¬ (1 ≤ 0)) => ?_)
    refine lv_lload_n hx hb dX7_judge_50 rfl (lv_at hl16 3 rfl) ?_
    refine lv_ldc2 (v := 1000) hx hb hown (ht _ q_907) dX7_judge_51 ?_
    refine lv_iload_n hx hb dX7_judge_54 rfl (lv_at hl16 2 rfl) ?_
    refine lv_iconst (v := 1) hx hb dX7_judge_55 (by decide) ?_
    refine lv_isub hx hb dX7_judge_56 ?_
    refine k_top (y := 0) (by decide +kernel) ?_
    refine lv_iload hx hb dX7_judge_57 (lv_at hl16 0 rfl) ?_
    refine lv_isub hx hb dX7_judge_59 ?_
    refine k_top (y := 0) (by decide +kernel) ?_
    refine k_calll (kRunS (As := [.long 1000, .int 0]) (rest := [.long p1]) kx (c_X7_longPower_0 l G ) q_910 q_908 q_36 q_909 nX7_longPower ⟨Nat.le_of_ble_eq_true rfl, Nat.le_of_ble_eq_true rfl⟩ hK hP14 hD15 (kCtx_nil _) rfl hl16.1 (Nat.le_of_ble_eq_true rfl) dX7_judge_60 ⟨Nat.zero_le _, Nat.zero_le _⟩) hP14 hD15 hS13 hA (kCtx_nil _) (fun _ => rfl) (fun r8 _ H17 locs17 hw hP17 hD17 hS17 => ?_)
    have hr8 : 1 = r8 := (show r8 = 1 from hw).symm
    subst hr8
    have hP18 : va_P G.1 vwCl ([(h0, .inr (7, cM (upd (upd (upd (upd Z 0 0) 18 (-9)) 20 0) 21 6) q1 q2 q3 q4 q5 q6 q7 q8 q9 q10 q11 sd)), (q4, .inl (G.2.1, 55, .inl pg)), (q5, .inl (G.2.1, 55, .inl (s_X7_lay_t pg tr)))]) H17 := hP17
    have hD19 : va_D A ([(h0, .inr (7, cM (upd (upd (upd (upd Z 0 0) 18 (-9)) 20 0) 21 6) q1 q2 q3 q4 q5 q6 q7 q8 q9 q10 q11 sd)), (q4, .inl (G.2.1, 55, .inl pg)), (q5, .inl (G.2.1, 55, .inl (s_X7_lay_t pg tr)))]) := hD17
    refine lv_ldiv hx hb dX7_judge_63 (by decide) ?_
    refine lv_ldc2 (v := 1000) hx hb hown (ht _ q_907) dX7_judge_64 ?_
    refine lv_lrem hx hb dX7_judge_67 (by decide) ?_
    refine k_topl (y := kRemL (p1 / 1) 1000) rfl ?_
    refine lv_l2i (v := (kRemL (p1 / 1) 1000).toInt32) hx hb dX7_judge_68 rfl ?_
    refine lv_istore (lv' := [(5, .int ((kRemL (p1 / 1) 1000).toInt32)), (4, .int 0), (0, .ref h0), (1, .int 1), (2, .long p1)]) hx hb dX7_judge_69 hl16 (by decide) rfl (fun ls20 hl20 => ?_)
    refine lv_aload_n hx hb dX7_judge_71 rfl (lv_at hl20 2 rfl) ?_
    refine lv_iload hx hb dX7_judge_72 (lv_at hl20 0 rfl) ?_
    refine lv_bipush (v := 100) hx hb dX7_judge_74 (by decide) ?_
    refine lv_idiv hx hb dX7_judge_76 (by decide) ?_
    refine lv_iload hx hb dX7_judge_77 (lv_at hl20 0 rfl) ?_
    refine lv_bipush (v := 10) hx hb dX7_judge_79 (by decide) ?_
    refine lv_idiv hx hb dX7_judge_81 (by decide) ?_
    refine lv_bipush (v := 10) hx hb dX7_judge_82 (by decide) ?_
    refine lv_irem hx hb dX7_judge_84 (by decide) ?_
    refine k_top (y := kRem (((kRemL (p1 / 1) 1000).toInt32) / 10) 10) rfl ?_
    refine lv_iload hx hb dX7_judge_85 (lv_at hl20 0 rfl) ?_
    refine lv_bipush (v := 10) hx hb dX7_judge_87 (by decide) ?_
    refine lv_irem hx hb dX7_judge_89 (by decide) ?_
    refine k_top (y := kRem ((kRemL (p1 / 1) 1000).toInt32) 10) rfl ?_
    refine k_calli (kRunV (As := [.int (((kRemL (p1 / 1) 1000).toInt32) / 100), .int (kRem (((kRemL (p1 / 1) 1000).toInt32) / 10) 10), .int (kRem ((kRemL (p1 / 1) 1000).toInt32) 10)]) (rest := []) kx (c_X7_does l G (upd (upd (upd (upd Z 0 0) 18 (-9)) 20 0) 21 6) sd h0 q1 q2 q3 q4 q5 q6 q7 q8 q9 q10 q11 (s_X7_lay_t pg tr) (((kRemL (p1 / 1) 1000).toInt32) / 100) (kRem (((kRemL (p1 / 1) 1000).toInt32) / 10) 10) (kRem ((kRemL (p1 / 1) 1000).toInt32) 10)) q_914 q_911 q_36 q_913 q_25 nX7_does ⟨Nat.le_of_ble_eq_true rfl, Nat.le_of_ble_eq_true rfl⟩ hK hP18 hD19 (kCtx_places _ _ [0, 2] rfl rfl) 0 7 rfl rfl rfl rfl hl20.1 (Nat.le_of_ble_eq_true rfl) dX7_judge_90 ⟨Nat.zero_le _, Nat.zero_le _⟩) hP18 hD19 hS17 hA (kCtx_places _ _ [0, 2] rfl rfl) (fun _ => rfl) (fun r9 u H21 locs21 hw hP21 hD21 hS21 => ?_)
    obtain ⟨F10, F11⟩ := u
    obtain ⟨hr9, hF10, hF11⟩ := hw
    have hr9 : r_X7_does (s_X7_lay_t pg tr) (((kRemL (p1 / 1) 1000).toInt32) / 100) (kRem (((kRemL (p1 / 1) 1000).toInt32) / 10) 10) (kRem ((kRemL (p1 / 1) 1000).toInt32) 10) = r9 := (show r9 = r_X7_does (s_X7_lay_t pg tr) (((kRemL (p1 / 1) 1000).toInt32) / 100) (kRem (((kRemL (p1 / 1) 1000).toInt32) / 10) 10) (kRem ((kRemL (p1 / 1) 1000).toInt32) 10) from hr9).symm
    have hF10 : s_X7_does_Z (upd (upd (upd (upd Z 0 0) 18 (-9)) 20 0) 21 6) (s_X7_lay_t pg tr) (((kRemL (p1 / 1) 1000).toInt32) / 100) (kRem (((kRemL (p1 / 1) 1000).toInt32) / 10) 10) (kRem ((kRemL (p1 / 1) 1000).toInt32) 10) = F10 := (show F10 = s_X7_does_Z (upd (upd (upd (upd Z 0 0) 18 (-9)) 20 0) 21 6) (s_X7_lay_t pg tr) (((kRemL (p1 / 1) 1000).toInt32) / 100) (kRem (((kRemL (p1 / 1) 1000).toInt32) / 10) 10) (kRem ((kRemL (p1 / 1) 1000).toInt32) 10) from hF10).symm
    have hF11 : s_X7_does_tr (upd (upd (upd (upd Z 0 0) 18 (-9)) 20 0) 21 6) (s_X7_lay_t pg tr) (((kRemL (p1 / 1) 1000).toInt32) / 100) (kRem (((kRemL (p1 / 1) 1000).toInt32) / 10) 10) (kRem ((kRemL (p1 / 1) 1000).toInt32) 10) = F11 := (show F11 = s_X7_does_tr (upd (upd (upd (upd Z 0 0) 18 (-9)) 20 0) 21 6) (s_X7_lay_t pg tr) (((kRemL (p1 / 1) 1000).toInt32) / 100) (kRem (((kRemL (p1 / 1) 1000).toInt32) / 10) 10) (kRem ((kRemL (p1 / 1) 1000).toInt32) 10) from hF11).symm
    have hP22 : va_P G.1 vwCl ([(h0, .inr (7, cM F10 q1 q2 q3 q4 q5 q6 q7 q8 q9 q10 q11 sd)), (q4, .inl (G.2.1, 55, .inl pg)), (q5, .inl (G.2.1, 55, .inl F11))]) H21 := hP21
    have hD23 : va_D A ([(h0, .inr (7, cM F10 q1 q2 q3 q4 q5 q6 q7 q8 q9 q10 q11 sd)), (q4, .inl (G.2.1, 55, .inl pg)), (q5, .inl (G.2.1, 55, .inl F11))]) := hD21
    refine lv_if_ne (x := r9) (tgt := 99) hx hb dX7_judge_93 (by decide) (fun (c12 : ¬ (r9 = 0)) => ?_) (fun (c12 : r9 = 0) => ?_)
    · skip
      refine lv_iinc (v := 1) (lv' := [(4, .int 1), (5, .int ((kRemL (p1 / 1) 1000).toInt32)), (0, .ref h0), (1, .int 1), (2, .long p1)]) hx hb dX7_judge_99 hl20 (k := 1) rfl (by decide +kernel) (by decide) rfl (fun ls24 hl24 => ?_)
      refine lv_goto (tgt := 44) hx hb dX7_judge_102 (by decide) ?_
      refine lv_iload hx hb dX7_judge_44 (lv_at hl24 0 rfl) ?_
      refine lv_iload_n hx hb dX7_judge_46 rfl (lv_at hl24 3 rfl) ?_
      refine lv_icmp_ge (x := 1) (y := 1) (tgt := 105) hx hb dX7_judge_47 (by decide) (fun (c13 : 1 ≤ 1) => ?_) (fun (c13 : ¬ (1 ≤ 1)) => absurd (by decide) c13)
      refine lv_bipush (v := (-9)) hx hb dX7_judge_105 (by decide) ?_
      have er : r_X7_judge_1 pg tr p1 = (-9) := by rw [r_X7_judge_1]; (try rw [hr4]); (try rw [hF10]); (try rw [hF11]); (try rw [hr9]); rw [if_neg c5, if_neg c12]
      have e0 : s_X7_judge_1_Z Z pg tr p1 = F10 := by rw [s_X7_judge_1_Z]; (try rw [hr4]); (try rw [hF10]); (try rw [hF11]); (try rw [hr9]); rw [if_neg c5, if_neg c12]
      have e1 : s_X7_judge_1_tr Z pg tr p1 = F11 := by rw [s_X7_judge_1_tr]; (try rw [hr4]); (try rw [hF10]); (try rw [hF11]); (try rw [hr9]); rw [if_neg c5, if_neg c12]
      exact k_iret kx hK hP22 hD23 hS21 (u := (F10, F11)) rfl ⟨er.symm, e0.symm, e1.symm⟩ dX7_judge_107
    · skip
      refine lv_iload hx hb dX7_judge_96 (lv_at hl20 1 rfl) ?_
      have er : r_X7_judge_1 pg tr p1 = 0 := by rw [r_X7_judge_1]; (try rw [hr4]); (try rw [hF10]); (try rw [hF11]); (try rw [hr9]); rw [if_neg c5, if_pos c12]
      have e0 : s_X7_judge_1_Z Z pg tr p1 = F10 := by rw [s_X7_judge_1_Z]; (try rw [hr4]); (try rw [hF10]); (try rw [hF11]); (try rw [hr9]); rw [if_neg c5, if_pos c12]
      have e1 : s_X7_judge_1_tr Z pg tr p1 = F11 := by rw [s_X7_judge_1_tr]; (try rw [hr4]); (try rw [hF10]); (try rw [hF11]); (try rw [hr9]); rw [if_neg c5, if_pos c12]
      exact k_iret kx hK hP22 hD23 hS21 (u := (F10, F11)) rfl ⟨er.symm, e0.symm, e1.symm⟩ dX7_judge_98
  · skip
    refine lv_bipush (v := (-2)) hx hb dX7_judge_34 (by decide) ?_
    have er : r_X7_judge_1 pg tr p1 = (-2) := by rw [r_X7_judge_1]; (try rw [hr4]); rw [if_pos c5]
    have e0 : s_X7_judge_1_Z Z pg tr p1 = upd Z 0 0 := by rw [s_X7_judge_1_Z]; (try rw [hr4]); rw [if_pos c5]
    have e1 : s_X7_judge_1_tr Z pg tr p1 = tr := by rw [s_X7_judge_1_tr]; (try rw [hr4]); rw [if_pos c5]
    exact k_iret kx hK hP11 hD12 hS10 (u := (upd Z 0 0, tr)) rfl ⟨er.symm, e0.symm, e1.symm⟩ dX7_judge_36

def r_X7_judge_2 (Z : Nat → Int32) (pg : Nat → Int32) (tr : Nat → Int32) (p1 : Int64) : Int32 := if (r_X7_in p1 0 999999) = 0 then (-2) else if (r_X7_does (s_X7_lay_t pg tr) (((kRemL (p1 / 1000) 1000).toInt32) / 100) (kRem (((kRemL (p1 / 1000) 1000).toInt32) / 10) 10) (kRem ((kRemL (p1 / 1000) 1000).toInt32) 10)) = 0 then 0 else if (r_X7_does (s_X7_does_tr (upd (upd (upd (upd Z 0 0) 18 (-9)) 20 0) 21 6) (s_X7_lay_t pg tr) (((kRemL (p1 / 1000) 1000).toInt32) / 100) (kRem (((kRemL (p1 / 1000) 1000).toInt32) / 10) 10) (kRem ((kRemL (p1 / 1000) 1000).toInt32) 10)) (((kRemL (p1 / 1) 1000).toInt32) / 100) (kRem (((kRemL (p1 / 1) 1000).toInt32) / 10) 10) (kRem ((kRemL (p1 / 1) 1000).toInt32) 10)) = 0 then 1 else (-9)
def s_X7_judge_2_Z (Z : Nat → Int32) (pg : Nat → Int32) (tr : Nat → Int32) (p1 : Int64) : Nat → Int32 := if (r_X7_in p1 0 999999) = 0 then (upd Z 0 0) else if (r_X7_does (s_X7_lay_t pg tr) (((kRemL (p1 / 1000) 1000).toInt32) / 100) (kRem (((kRemL (p1 / 1000) 1000).toInt32) / 10) 10) (kRem ((kRemL (p1 / 1000) 1000).toInt32) 10)) = 0 then (s_X7_does_Z (upd (upd (upd (upd Z 0 0) 18 (-9)) 20 0) 21 6) (s_X7_lay_t pg tr) (((kRemL (p1 / 1000) 1000).toInt32) / 100) (kRem (((kRemL (p1 / 1000) 1000).toInt32) / 10) 10) (kRem ((kRemL (p1 / 1000) 1000).toInt32) 10)) else if (r_X7_does (s_X7_does_tr (upd (upd (upd (upd Z 0 0) 18 (-9)) 20 0) 21 6) (s_X7_lay_t pg tr) (((kRemL (p1 / 1000) 1000).toInt32) / 100) (kRem (((kRemL (p1 / 1000) 1000).toInt32) / 10) 10) (kRem ((kRemL (p1 / 1000) 1000).toInt32) 10)) (((kRemL (p1 / 1) 1000).toInt32) / 100) (kRem (((kRemL (p1 / 1) 1000).toInt32) / 10) 10) (kRem ((kRemL (p1 / 1) 1000).toInt32) 10)) = 0 then (s_X7_does_Z (s_X7_does_Z (upd (upd (upd (upd Z 0 0) 18 (-9)) 20 0) 21 6) (s_X7_lay_t pg tr) (((kRemL (p1 / 1000) 1000).toInt32) / 100) (kRem (((kRemL (p1 / 1000) 1000).toInt32) / 10) 10) (kRem ((kRemL (p1 / 1000) 1000).toInt32) 10)) (s_X7_does_tr (upd (upd (upd (upd Z 0 0) 18 (-9)) 20 0) 21 6) (s_X7_lay_t pg tr) (((kRemL (p1 / 1000) 1000).toInt32) / 100) (kRem (((kRemL (p1 / 1000) 1000).toInt32) / 10) 10) (kRem ((kRemL (p1 / 1000) 1000).toInt32) 10)) (((kRemL (p1 / 1) 1000).toInt32) / 100) (kRem (((kRemL (p1 / 1) 1000).toInt32) / 10) 10) (kRem ((kRemL (p1 / 1) 1000).toInt32) 10)) else s_X7_does_Z (s_X7_does_Z (upd (upd (upd (upd Z 0 0) 18 (-9)) 20 0) 21 6) (s_X7_lay_t pg tr) (((kRemL (p1 / 1000) 1000).toInt32) / 100) (kRem (((kRemL (p1 / 1000) 1000).toInt32) / 10) 10) (kRem ((kRemL (p1 / 1000) 1000).toInt32) 10)) (s_X7_does_tr (upd (upd (upd (upd Z 0 0) 18 (-9)) 20 0) 21 6) (s_X7_lay_t pg tr) (((kRemL (p1 / 1000) 1000).toInt32) / 100) (kRem (((kRemL (p1 / 1000) 1000).toInt32) / 10) 10) (kRem ((kRemL (p1 / 1000) 1000).toInt32) 10)) (((kRemL (p1 / 1) 1000).toInt32) / 100) (kRem (((kRemL (p1 / 1) 1000).toInt32) / 10) 10) (kRem ((kRemL (p1 / 1) 1000).toInt32) 10)
def s_X7_judge_2_tr (Z : Nat → Int32) (pg : Nat → Int32) (tr : Nat → Int32) (p1 : Int64) : Nat → Int32 := if (r_X7_in p1 0 999999) = 0 then tr else if (r_X7_does (s_X7_lay_t pg tr) (((kRemL (p1 / 1000) 1000).toInt32) / 100) (kRem (((kRemL (p1 / 1000) 1000).toInt32) / 10) 10) (kRem ((kRemL (p1 / 1000) 1000).toInt32) 10)) = 0 then (s_X7_does_tr (upd (upd (upd (upd Z 0 0) 18 (-9)) 20 0) 21 6) (s_X7_lay_t pg tr) (((kRemL (p1 / 1000) 1000).toInt32) / 100) (kRem (((kRemL (p1 / 1000) 1000).toInt32) / 10) 10) (kRem ((kRemL (p1 / 1000) 1000).toInt32) 10)) else if (r_X7_does (s_X7_does_tr (upd (upd (upd (upd Z 0 0) 18 (-9)) 20 0) 21 6) (s_X7_lay_t pg tr) (((kRemL (p1 / 1000) 1000).toInt32) / 100) (kRem (((kRemL (p1 / 1000) 1000).toInt32) / 10) 10) (kRem ((kRemL (p1 / 1000) 1000).toInt32) 10)) (((kRemL (p1 / 1) 1000).toInt32) / 100) (kRem (((kRemL (p1 / 1) 1000).toInt32) / 10) 10) (kRem ((kRemL (p1 / 1) 1000).toInt32) 10)) = 0 then (s_X7_does_tr (s_X7_does_Z (upd (upd (upd (upd Z 0 0) 18 (-9)) 20 0) 21 6) (s_X7_lay_t pg tr) (((kRemL (p1 / 1000) 1000).toInt32) / 100) (kRem (((kRemL (p1 / 1000) 1000).toInt32) / 10) 10) (kRem ((kRemL (p1 / 1000) 1000).toInt32) 10)) (s_X7_does_tr (upd (upd (upd (upd Z 0 0) 18 (-9)) 20 0) 21 6) (s_X7_lay_t pg tr) (((kRemL (p1 / 1000) 1000).toInt32) / 100) (kRem (((kRemL (p1 / 1000) 1000).toInt32) / 10) 10) (kRem ((kRemL (p1 / 1000) 1000).toInt32) 10)) (((kRemL (p1 / 1) 1000).toInt32) / 100) (kRem (((kRemL (p1 / 1) 1000).toInt32) / 10) 10) (kRem ((kRemL (p1 / 1) 1000).toInt32) 10)) else s_X7_does_tr (s_X7_does_Z (upd (upd (upd (upd Z 0 0) 18 (-9)) 20 0) 21 6) (s_X7_lay_t pg tr) (((kRemL (p1 / 1000) 1000).toInt32) / 100) (kRem (((kRemL (p1 / 1000) 1000).toInt32) / 10) 10) (kRem ((kRemL (p1 / 1000) 1000).toInt32) 10)) (s_X7_does_tr (upd (upd (upd (upd Z 0 0) 18 (-9)) 20 0) 21 6) (s_X7_lay_t pg tr) (((kRemL (p1 / 1000) 1000).toInt32) / 100) (kRem (((kRemL (p1 / 1000) 1000).toInt32) / 10) 10) (kRem ((kRemL (p1 / 1000) 1000).toInt32) 10)) (((kRemL (p1 / 1) 1000).toInt32) / 100) (kRem (((kRemL (p1 / 1) 1000).toInt32) / 10) 10) (kRem ((kRemL (p1 / 1) 1000).toInt32) 10)
set_option maxHeartbeats 4000000 in
set_option maxRecDepth 100000 in
theorem c_X7_judge_2 (l : Launch) (G : kG) (Z : Nat → Int32) (sd : Int64) (h0 : Nat) (q1 : Nat) (q2 : Nat) (q3 : Nat) (q4 : Nat) (q5 : Nat) (q6 : Nat) (q7 : Nat) (q8 : Nat) (q9 : Nat) (q10 : Nat) (q11 : Nat) (pg : Nat → Int32) (tr : Nat → Int32) (p1 : Int64) : cG l G yX7_judge cX7_judge 6 (some .int) 7 [.ref h0, .int 2, .long p1] ([(h0, .inr (7, cM Z q1 q2 q3 q4 q5 q6 q7 q8 q9 q10 q11 sd)), (q4, .inl (G.2.1, 55, .inl pg)), (q5, .inl (G.2.1, 55, .inl tr))]) (qI G (fun (r : Int32) (u : ((Nat → Int32) × (Nat → Int32))) => r = r_X7_judge_2 Z pg tr p1 ∧ u.1 = s_X7_judge_2_Z Z pg tr p1 ∧ u.2 = s_X7_judge_2_tr Z pg tr p1) (fun u => [(h0, .inr (7, cM u.1 q1 q2 q3 q4 q5 q6 q7 q8 q9 q10 q11 sd)), (q4, .inl (G.2.1, 55, .inl pg)), (q5, .inl (G.2.1, 55, .inl u.2))])) := by
  refine kintro (by decide) (Nat.le_of_ble_eq_true rfl) ?_
  intro p e s m args below meth c A ls kx hK hP hD hS hA hl
  have kx : kX p s m args meth c cX7_judge 6 (some .int) RX7 := kx
  have hx := kx.1
  have hb := kx.2.1
  have hown := kx.2.2.2.2.1
  have ht := kx.2.2.2.2.2.2
  have hl : lv_has ls 6 [(0, .ref h0), (1, .int 2), (2, .long p1)] := hl
  refine lv_aload_n hx hb dX7_judge_0 rfl (lv_at hl 0 rfl) ?_
  refine lv_iconst (v := 0) hx hb dX7_judge_1 (by decide) ?_
  refine va_put (ci := 7) (v := .int 0) (ty := .int) (C := RX7) (T := TX7) (N := 22) hx hb ht inX7 tyX7 tyX7_ok nmX7 hown hK.1 hP hD hS 0 rfl rfl 0 (by decide) (ht _ q_666) (fun _ h9 => h9) rfl (by decide +kernel) rfl rfl (Nat.le_of_ble_eq_true rfl) dX7_judge_2 (fun H1 locs1 hP1 hD1 hS1 => ?_)
  have hP2 : va_P G.1 vwCl ([(h0, .inr (7, cM (upd Z 0 0) q1 q2 q3 q4 q5 q6 q7 q8 q9 q10 q11 sd)), (q4, .inl (G.2.1, 55, .inl pg)), (q5, .inl (G.2.1, 55, .inl tr))]) H1 := hP1
  have hD3 : va_D A ([(h0, .inr (7, cM (upd Z 0 0) q1 q2 q3 q4 q5 q6 q7 q8 q9 q10 q11 sd)), (q4, .inl (G.2.1, 55, .inl pg)), (q5, .inl (G.2.1, 55, .inl tr))]) := hD1
  refine lv_iload_n hx hb dX7_judge_5 rfl (lv_at hl 1 rfl) ?_
  refine lv_i2l (v := 2) hx hb dX7_judge_6 (by decide +kernel) ?_
  refine lv_lconst (v := 1) hx hb dX7_judge_7 (by decide) ?_
  refine lv_ldc2 (v := 4) hx hb hown (ht _ q_842) dX7_judge_8 ?_
  refine k_calli (kRunS (As := [.long 2, .long 1, .long 4]) (rest := []) kx (c_X7_in_214 l G ) q_740 q_738 q_36 q_739 nX7_in ⟨Nat.le_of_ble_eq_true rfl, Nat.le_of_ble_eq_true rfl⟩ hK hP2 hD3 (kCtx_nil _) rfl hl.1 (Nat.le_of_ble_eq_true rfl) dX7_judge_11 ⟨Nat.zero_le _, Nat.zero_le _⟩) hP2 hD3 hS1 hA (kCtx_nil _) (fun _ => rfl) (fun r1 _ H4 locs4 hw hP4 hD4 hS4 => ?_)
  have hr1 : 1 = r1 := (show r1 = 1 from hw).symm
  subst hr1
  have hP5 : va_P G.1 vwCl ([(h0, .inr (7, cM (upd Z 0 0) q1 q2 q3 q4 q5 q6 q7 q8 q9 q10 q11 sd)), (q4, .inl (G.2.1, 55, .inl pg)), (q5, .inl (G.2.1, 55, .inl tr))]) H4 := hP4
  have hD6 : va_D A ([(h0, .inr (7, cM (upd Z 0 0) q1 q2 q3 q4 q5 q6 q7 q8 q9 q10 q11 sd)), (q4, .inl (G.2.1, 55, .inl pg)), (q5, .inl (G.2.1, 55, .inl tr))]) := hD4
  refine lv_if_eq (x := 1) (tgt := 34) hx hb dX7_judge_14 (by decide) (fun (c2 : 1 = 0) => absurd c2 (by decide)) (fun (c2 : ¬ (1 = 0)) => ?_)
  refine lv_lload_n hx hb dX7_judge_17 rfl (lv_at hl 2 rfl) ?_
  refine lv_lconst (v := 0) hx hb dX7_judge_18 (by decide) ?_
  refine lv_ldc2 (v := 1000) hx hb hown (ht _ q_907) dX7_judge_19 ?_
  refine lv_iload_n hx hb dX7_judge_22 rfl (lv_at hl 1 rfl) ?_
  refine k_calll (kRunS (As := [.long 1000, .int 2]) (rest := [.long 0, .long p1]) kx (c_X7_longPower_2 l G ) q_910 q_908 q_36 q_909 nX7_longPower ⟨Nat.le_of_ble_eq_true rfl, Nat.le_of_ble_eq_true rfl⟩ hK hP5 hD6 (kCtx_nil _) rfl hl.1 (Nat.le_of_ble_eq_true rfl) dX7_judge_23 ⟨Nat.zero_le _, Nat.zero_le _⟩) hP5 hD6 hS4 hA (kCtx_nil _) (fun _ => rfl) (fun r3 _ H7 locs7 hw hP7 hD7 hS7 => ?_)
  have hr3 : 1000000 = r3 := (show r3 = 1000000 from hw).symm
  subst hr3
  have hP8 : va_P G.1 vwCl ([(h0, .inr (7, cM (upd Z 0 0) q1 q2 q3 q4 q5 q6 q7 q8 q9 q10 q11 sd)), (q4, .inl (G.2.1, 55, .inl pg)), (q5, .inl (G.2.1, 55, .inl tr))]) H7 := hP7
  have hD9 : va_D A ([(h0, .inr (7, cM (upd Z 0 0) q1 q2 q3 q4 q5 q6 q7 q8 q9 q10 q11 sd)), (q4, .inl (G.2.1, 55, .inl pg)), (q5, .inl (G.2.1, 55, .inl tr))]) := hD7
  refine lv_lconst (v := 1) hx hb dX7_judge_26 (by decide) ?_
  refine lv_lsub hx hb dX7_judge_27 ?_
  refine k_topl (y := 999999) (by decide +kernel) ?_
  refine k_calli (kRunS (As := [.long p1, .long 0, .long 999999]) (rest := []) kx (c_X7_in l G p1 0 999999) q_740 q_738 q_36 q_739 nX7_in ⟨Nat.le_of_ble_eq_true rfl, Nat.le_of_ble_eq_true rfl⟩ hK hP8 hD9 (kCtx_nil _) rfl hl.1 (Nat.le_of_ble_eq_true rfl) dX7_judge_28 ⟨Nat.zero_le _, Nat.zero_le _⟩) hP8 hD9 hS7 hA (kCtx_nil _) (fun _ => rfl) (fun r4 _ H10 locs10 hw hP10 hD10 hS10 => ?_)
  have hr4 : r_X7_in p1 0 999999 = r4 := (show r4 = r_X7_in p1 0 999999 from hw).symm
  have hP11 : va_P G.1 vwCl ([(h0, .inr (7, cM (upd Z 0 0) q1 q2 q3 q4 q5 q6 q7 q8 q9 q10 q11 sd)), (q4, .inl (G.2.1, 55, .inl pg)), (q5, .inl (G.2.1, 55, .inl tr))]) H10 := hP10
  have hD12 : va_D A ([(h0, .inr (7, cM (upd Z 0 0) q1 q2 q3 q4 q5 q6 q7 q8 q9 q10 q11 sd)), (q4, .inl (G.2.1, 55, .inl pg)), (q5, .inl (G.2.1, 55, .inl tr))]) := hD10
  refine lv_if_ne (x := r4) (tgt := 37) hx hb dX7_judge_31 (by decide) (fun (c5 : ¬ (r4 = 0)) => ?_) (fun (c5 : r4 = 0) => ?_)
  · skip
    refine lv_aload_n hx hb dX7_judge_37 rfl (lv_at hl 0 rfl) ?_
    refine k_callv (kRunV (As := []) (rest := []) kx (c_X7_layTrial l G (upd Z 0 0) sd h0 q1 q2 q3 q4 q5 q6 q7 q8 q9 q10 q11 pg tr) q_774 q_771 q_36 q_773 q_16 nX7_layTrial ⟨Nat.le_of_ble_eq_true rfl, Nat.le_of_ble_eq_true rfl⟩ hK hP11 hD12 (kCtx_all _) 0 7 rfl rfl rfl rfl hl.1 (Nat.le_of_ble_eq_true rfl) dX7_judge_38 ⟨Nat.zero_le _, Nat.zero_le _⟩) hP11 hD12 hS10 hA (kCtx_all _) (fun _ => rfl) (fun _ H13 locs13 hw hP13 hD13 hS13 => ?_)
    have hP14 : va_P G.1 vwCl ([(h0, .inr (7, cM (upd (upd (upd (upd Z 0 0) 18 (-9)) 20 0) 21 6) q1 q2 q3 q4 q5 q6 q7 q8 q9 q10 q11 sd)), (q4, .inl (G.2.1, 55, .inl pg)), (q5, .inl (G.2.1, 55, .inl (s_X7_lay_t pg tr)))]) H13 := hP13
    have hD15 : va_D A ([(h0, .inr (7, cM (upd (upd (upd (upd Z 0 0) 18 (-9)) 20 0) 21 6) q1 q2 q3 q4 q5 q6 q7 q8 q9 q10 q11 sd)), (q4, .inl (G.2.1, 55, .inl pg)), (q5, .inl (G.2.1, 55, .inl (s_X7_lay_t pg tr)))]) := hD13
    refine lv_iconst (v := 0) hx hb dX7_judge_41 (by decide) ?_
    refine lv_istore (lv' := [(4, .int 0), (0, .ref h0), (1, .int 2), (2, .long p1)]) hx hb dX7_judge_42 hl (by decide) rfl (fun ls16 hl16 => ?_)
    refine lv_iload hx hb dX7_judge_44 (lv_at hl16 0 rfl) ?_
    refine lv_iload_n hx hb dX7_judge_46 rfl (lv_at hl16 2 rfl) ?_
    refine lv_icmp_ge (x := 0) (y := 2) (tgt := 105) hx hb dX7_judge_47 (by decide) (fun (c7 : 2 ≤ 0) => absurd c7 (by decide)) (fun (c7 : ¬ (2 ≤ 0)) => ?_)
    refine lv_lload_n hx hb dX7_judge_50 rfl (lv_at hl16 3 rfl) ?_
    refine lv_ldc2 (v := 1000) hx hb hown (ht _ q_907) dX7_judge_51 ?_
    refine lv_iload_n hx hb dX7_judge_54 rfl (lv_at hl16 2 rfl) ?_
    refine lv_iconst (v := 1) hx hb dX7_judge_55 (by decide) ?_
    refine lv_isub hx hb dX7_judge_56 ?_
    refine k_top (y := 1) (by decide +kernel) ?_
    refine lv_iload hx hb dX7_judge_57 (lv_at hl16 0 rfl) ?_
    refine lv_isub hx hb dX7_judge_59 ?_
    refine k_top (y := 1) (by decide +kernel) ?_
    refine k_calll (kRunS (As := [.long 1000, .int 1]) (rest := [.long p1]) kx (c_X7_longPower_1 l G ) q_910 q_908 q_36 q_909 nX7_longPower ⟨Nat.le_of_ble_eq_true rfl, Nat.le_of_ble_eq_true rfl⟩ hK hP14 hD15 (kCtx_nil _) rfl hl16.1 (Nat.le_of_ble_eq_true rfl) dX7_judge_60 ⟨Nat.zero_le _, Nat.zero_le _⟩) hP14 hD15 hS13 hA (kCtx_nil _) (fun _ => rfl) (fun r8 _ H17 locs17 hw hP17 hD17 hS17 => ?_)
    have hr8 : 1000 = r8 := (show r8 = 1000 from hw).symm
    subst hr8
    have hP18 : va_P G.1 vwCl ([(h0, .inr (7, cM (upd (upd (upd (upd Z 0 0) 18 (-9)) 20 0) 21 6) q1 q2 q3 q4 q5 q6 q7 q8 q9 q10 q11 sd)), (q4, .inl (G.2.1, 55, .inl pg)), (q5, .inl (G.2.1, 55, .inl (s_X7_lay_t pg tr)))]) H17 := hP17
    have hD19 : va_D A ([(h0, .inr (7, cM (upd (upd (upd (upd Z 0 0) 18 (-9)) 20 0) 21 6) q1 q2 q3 q4 q5 q6 q7 q8 q9 q10 q11 sd)), (q4, .inl (G.2.1, 55, .inl pg)), (q5, .inl (G.2.1, 55, .inl (s_X7_lay_t pg tr)))]) := hD17
    refine lv_ldiv hx hb dX7_judge_63 (by decide) ?_
    refine lv_ldc2 (v := 1000) hx hb hown (ht _ q_907) dX7_judge_64 ?_
    refine lv_lrem hx hb dX7_judge_67 (by decide) ?_
    refine k_topl (y := kRemL (p1 / 1000) 1000) rfl ?_
    refine lv_l2i (v := (kRemL (p1 / 1000) 1000).toInt32) hx hb dX7_judge_68 rfl ?_
    refine lv_istore (lv' := [(5, .int ((kRemL (p1 / 1000) 1000).toInt32)), (4, .int 0), (0, .ref h0), (1, .int 2), (2, .long p1)]) hx hb dX7_judge_69 hl16 (by decide) rfl (fun ls20 hl20 => ?_)
    refine lv_aload_n hx hb dX7_judge_71 rfl (lv_at hl20 2 rfl) ?_
    refine lv_iload hx hb dX7_judge_72 (lv_at hl20 0 rfl) ?_
    refine lv_bipush (v := 100) hx hb dX7_judge_74 (by decide) ?_
    refine lv_idiv hx hb dX7_judge_76 (by decide) ?_
    refine lv_iload hx hb dX7_judge_77 (lv_at hl20 0 rfl) ?_
    refine lv_bipush (v := 10) hx hb dX7_judge_79 (by decide) ?_
    refine lv_idiv hx hb dX7_judge_81 (by decide) ?_
    refine lv_bipush (v := 10) hx hb dX7_judge_82 (by decide) ?_
    refine lv_irem hx hb dX7_judge_84 (by decide) ?_
    refine k_top (y := kRem (((kRemL (p1 / 1000) 1000).toInt32) / 10) 10) rfl ?_
    refine lv_iload hx hb dX7_judge_85 (lv_at hl20 0 rfl) ?_
    refine lv_bipush (v := 10) hx hb dX7_judge_87 (by decide) ?_
    refine lv_irem hx hb dX7_judge_89 (by decide) ?_
    refine k_top (y := kRem ((kRemL (p1 / 1000) 1000).toInt32) 10) rfl ?_
    refine k_calli (kRunV (As := [.int (((kRemL (p1 / 1000) 1000).toInt32) / 100), .int (kRem (((kRemL (p1 / 1000) 1000).toInt32) / 10) 10), .int (kRem ((kRemL (p1 / 1000) 1000).toInt32) 10)]) (rest := []) kx (c_X7_does l G (upd (upd (upd (upd Z 0 0) 18 (-9)) 20 0) 21 6) sd h0 q1 q2 q3 q4 q5 q6 q7 q8 q9 q10 q11 (s_X7_lay_t pg tr) (((kRemL (p1 / 1000) 1000).toInt32) / 100) (kRem (((kRemL (p1 / 1000) 1000).toInt32) / 10) 10) (kRem ((kRemL (p1 / 1000) 1000).toInt32) 10)) q_914 q_911 q_36 q_913 q_25 nX7_does ⟨Nat.le_of_ble_eq_true rfl, Nat.le_of_ble_eq_true rfl⟩ hK hP18 hD19 (kCtx_places _ _ [0, 2] rfl rfl) 0 7 rfl rfl rfl rfl hl20.1 (Nat.le_of_ble_eq_true rfl) dX7_judge_90 ⟨Nat.zero_le _, Nat.zero_le _⟩) hP18 hD19 hS17 hA (kCtx_places _ _ [0, 2] rfl rfl) (fun _ => rfl) (fun r9 u H21 locs21 hw hP21 hD21 hS21 => ?_)
    obtain ⟨F10, F11⟩ := u
    obtain ⟨hr9, hF10, hF11⟩ := hw
    have hr9 : r_X7_does (s_X7_lay_t pg tr) (((kRemL (p1 / 1000) 1000).toInt32) / 100) (kRem (((kRemL (p1 / 1000) 1000).toInt32) / 10) 10) (kRem ((kRemL (p1 / 1000) 1000).toInt32) 10) = r9 := (show r9 = r_X7_does (s_X7_lay_t pg tr) (((kRemL (p1 / 1000) 1000).toInt32) / 100) (kRem (((kRemL (p1 / 1000) 1000).toInt32) / 10) 10) (kRem ((kRemL (p1 / 1000) 1000).toInt32) 10) from hr9).symm
    have hF10 : s_X7_does_Z (upd (upd (upd (upd Z 0 0) 18 (-9)) 20 0) 21 6) (s_X7_lay_t pg tr) (((kRemL (p1 / 1000) 1000).toInt32) / 100) (kRem (((kRemL (p1 / 1000) 1000).toInt32) / 10) 10) (kRem ((kRemL (p1 / 1000) 1000).toInt32) 10) = F10 := (show F10 = s_X7_does_Z (upd (upd (upd (upd Z 0 0) 18 (-9)) 20 0) 21 6) (s_X7_lay_t pg tr) (((kRemL (p1 / 1000) 1000).toInt32) / 100) (kRem (((kRemL (p1 / 1000) 1000).toInt32) / 10) 10) (kRem ((kRemL (p1 / 1000) 1000).toInt32) 10) from hF10).symm
    have hF11 : s_X7_does_tr (upd (upd (upd (upd Z 0 0) 18 (-9)) 20 0) 21 6) (s_X7_lay_t pg tr) (((kRemL (p1 / 1000) 1000).toInt32) / 100) (kRem (((kRemL (p1 / 1000) 1000).toInt32) / 10) 10) (kRem ((kRemL (p1 / 1000) 1000).toInt32) 10) = F11 := (show F11 = s_X7_does_tr (upd (upd (upd (upd Z 0 0) 18 (-9)) 20 0) 21 6) (s_X7_lay_t pg tr) (((kRemL (p1 / 1000) 1000).toInt32) / 100) (kRem (((kRemL (p1 / 1000) 1000).toInt32) / 10) 10) (kRem ((kRemL (p1 / 1000) 1000).toInt32) 10) from hF11).symm
    have hP22 : va_P G.1 vwCl ([(h0, .inr (7, cM F10 q1 q2 q3 q4 q5 q6 q7 q8 q9 q10 q11 sd)), (q4, .inl (G.2.1, 55, .inl pg)), (q5, .inl (G.2.1, 55, .inl F11))]) H21 := hP21
    have hD23 : va_D A ([(h0, .inr (7, cM F10 q1 q2 q3 q4 q5 q6 q7 q8 q9 q10 q11 sd)), (q4, .inl (G.2.1, 55, .inl pg)), (q5, .inl (G.2.1, 55, .inl F11))]) := hD21
    refine lv_if_ne (x := r9) (tgt := 99) hx hb dX7_judge_93 (by decide) (fun (c12 : ¬ (r9 = 0)) => ?_) (fun (c12 : r9 = 0) => ?_)
    · skip
      refine lv_iinc (v := 1) (lv' := [(4, .int 1), (5, .int ((kRemL (p1 / 1000) 1000).toInt32)), (0, .ref h0), (1, .int 2), (2, .long p1)]) hx hb dX7_judge_99 hl20 (k := 1) rfl (by decide +kernel) (by decide) rfl (fun ls24 hl24 => ?_)
      refine lv_goto (tgt := 44) hx hb dX7_judge_102 (by decide) ?_
      refine lv_iload hx hb dX7_judge_44 (lv_at hl24 0 rfl) ?_
      refine lv_iload_n hx hb dX7_judge_46 rfl (lv_at hl24 3 rfl) ?_
      refine lv_icmp_ge (x := 1) (y := 2) (tgt := 105) hx hb dX7_judge_47 (by decide) (fun (c13 : 2 ≤ 1) => absurd c13 (by decide)) (fun (c13 : ¬ (2 ≤ 1)) => ?_)
      refine lv_lload_n hx hb dX7_judge_50 rfl (lv_at hl24 4 rfl) ?_
      refine lv_ldc2 (v := 1000) hx hb hown (ht _ q_907) dX7_judge_51 ?_
      refine lv_iload_n hx hb dX7_judge_54 rfl (lv_at hl24 3 rfl) ?_
      refine lv_iconst (v := 1) hx hb dX7_judge_55 (by decide) ?_
      refine lv_isub hx hb dX7_judge_56 ?_
      refine k_top (y := 1) (by decide +kernel) ?_
      refine lv_iload hx hb dX7_judge_57 (lv_at hl24 0 rfl) ?_
      refine lv_isub hx hb dX7_judge_59 ?_
      refine k_top (y := 0) (by decide +kernel) ?_
      refine k_calll (kRunS (As := [.long 1000, .int 0]) (rest := [.long p1]) kx (c_X7_longPower_0 l G ) q_910 q_908 q_36 q_909 nX7_longPower ⟨Nat.le_of_ble_eq_true rfl, Nat.le_of_ble_eq_true rfl⟩ hK hP22 hD23 (kCtx_nil _) rfl hl24.1 (Nat.le_of_ble_eq_true rfl) dX7_judge_60 ⟨Nat.zero_le _, Nat.zero_le _⟩) hP22 hD23 hS21 hA (kCtx_nil _) (fun _ => rfl) (fun r14 _ H25 locs25 hw hP25 hD25 hS25 => ?_)
      have hr14 : 1 = r14 := (show r14 = 1 from hw).symm
      subst hr14
      have hP26 : va_P G.1 vwCl ([(h0, .inr (7, cM F10 q1 q2 q3 q4 q5 q6 q7 q8 q9 q10 q11 sd)), (q4, .inl (G.2.1, 55, .inl pg)), (q5, .inl (G.2.1, 55, .inl F11))]) H25 := hP25
      have hD27 : va_D A ([(h0, .inr (7, cM F10 q1 q2 q3 q4 q5 q6 q7 q8 q9 q10 q11 sd)), (q4, .inl (G.2.1, 55, .inl pg)), (q5, .inl (G.2.1, 55, .inl F11))]) := hD25
      refine lv_ldiv hx hb dX7_judge_63 (by decide) ?_
      refine lv_ldc2 (v := 1000) hx hb hown (ht _ q_907) dX7_judge_64 ?_
      refine lv_lrem hx hb dX7_judge_67 (by decide) ?_
      refine k_topl (y := kRemL (p1 / 1) 1000) rfl ?_
      refine lv_l2i (v := (kRemL (p1 / 1) 1000).toInt32) hx hb dX7_judge_68 rfl ?_
      refine lv_istore (lv' := [(5, .int ((kRemL (p1 / 1) 1000).toInt32)), (4, .int 1), (0, .ref h0), (1, .int 2), (2, .long p1)]) hx hb dX7_judge_69 hl24 (by decide) rfl (fun ls28 hl28 => ?_)
      refine lv_aload_n hx hb dX7_judge_71 rfl (lv_at hl28 2 rfl) ?_
      refine lv_iload hx hb dX7_judge_72 (lv_at hl28 0 rfl) ?_
      refine lv_bipush (v := 100) hx hb dX7_judge_74 (by decide) ?_
      refine lv_idiv hx hb dX7_judge_76 (by decide) ?_
      refine lv_iload hx hb dX7_judge_77 (lv_at hl28 0 rfl) ?_
      refine lv_bipush (v := 10) hx hb dX7_judge_79 (by decide) ?_
      refine lv_idiv hx hb dX7_judge_81 (by decide) ?_
      refine lv_bipush (v := 10) hx hb dX7_judge_82 (by decide) ?_
      refine lv_irem hx hb dX7_judge_84 (by decide) ?_
      refine k_top (y := kRem (((kRemL (p1 / 1) 1000).toInt32) / 10) 10) rfl ?_
      refine lv_iload hx hb dX7_judge_85 (lv_at hl28 0 rfl) ?_
      refine lv_bipush (v := 10) hx hb dX7_judge_87 (by decide) ?_
      refine lv_irem hx hb dX7_judge_89 (by decide) ?_
      refine k_top (y := kRem ((kRemL (p1 / 1) 1000).toInt32) 10) rfl ?_
      refine k_calli (kRunV (As := [.int (((kRemL (p1 / 1) 1000).toInt32) / 100), .int (kRem (((kRemL (p1 / 1) 1000).toInt32) / 10) 10), .int (kRem ((kRemL (p1 / 1) 1000).toInt32) 10)]) (rest := []) kx (c_X7_does l G F10 sd h0 q1 q2 q3 q4 q5 q6 q7 q8 q9 q10 q11 F11 (((kRemL (p1 / 1) 1000).toInt32) / 100) (kRem (((kRemL (p1 / 1) 1000).toInt32) / 10) 10) (kRem ((kRemL (p1 / 1) 1000).toInt32) 10)) q_914 q_911 q_36 q_913 q_25 nX7_does ⟨Nat.le_of_ble_eq_true rfl, Nat.le_of_ble_eq_true rfl⟩ hK hP26 hD27 (kCtx_places _ _ [0, 2] rfl rfl) 0 7 rfl rfl rfl rfl hl28.1 (Nat.le_of_ble_eq_true rfl) dX7_judge_90 ⟨Nat.zero_le _, Nat.zero_le _⟩) hP26 hD27 hS25 hA (kCtx_places _ _ [0, 2] rfl rfl) (fun _ => rfl) (fun r15 u H29 locs29 hw hP29 hD29 hS29 => ?_)
      obtain ⟨F16, F17⟩ := u
      obtain ⟨hr15, hF16, hF17⟩ := hw
      have hr15 : r_X7_does F11 (((kRemL (p1 / 1) 1000).toInt32) / 100) (kRem (((kRemL (p1 / 1) 1000).toInt32) / 10) 10) (kRem ((kRemL (p1 / 1) 1000).toInt32) 10) = r15 := (show r15 = r_X7_does F11 (((kRemL (p1 / 1) 1000).toInt32) / 100) (kRem (((kRemL (p1 / 1) 1000).toInt32) / 10) 10) (kRem ((kRemL (p1 / 1) 1000).toInt32) 10) from hr15).symm
      have hF16 : s_X7_does_Z F10 F11 (((kRemL (p1 / 1) 1000).toInt32) / 100) (kRem (((kRemL (p1 / 1) 1000).toInt32) / 10) 10) (kRem ((kRemL (p1 / 1) 1000).toInt32) 10) = F16 := (show F16 = s_X7_does_Z F10 F11 (((kRemL (p1 / 1) 1000).toInt32) / 100) (kRem (((kRemL (p1 / 1) 1000).toInt32) / 10) 10) (kRem ((kRemL (p1 / 1) 1000).toInt32) 10) from hF16).symm
      have hF17 : s_X7_does_tr F10 F11 (((kRemL (p1 / 1) 1000).toInt32) / 100) (kRem (((kRemL (p1 / 1) 1000).toInt32) / 10) 10) (kRem ((kRemL (p1 / 1) 1000).toInt32) 10) = F17 := (show F17 = s_X7_does_tr F10 F11 (((kRemL (p1 / 1) 1000).toInt32) / 100) (kRem (((kRemL (p1 / 1) 1000).toInt32) / 10) 10) (kRem ((kRemL (p1 / 1) 1000).toInt32) 10) from hF17).symm
      have hP30 : va_P G.1 vwCl ([(h0, .inr (7, cM F16 q1 q2 q3 q4 q5 q6 q7 q8 q9 q10 q11 sd)), (q4, .inl (G.2.1, 55, .inl pg)), (q5, .inl (G.2.1, 55, .inl F17))]) H29 := hP29
      have hD31 : va_D A ([(h0, .inr (7, cM F16 q1 q2 q3 q4 q5 q6 q7 q8 q9 q10 q11 sd)), (q4, .inl (G.2.1, 55, .inl pg)), (q5, .inl (G.2.1, 55, .inl F17))]) := hD29
      refine lv_if_ne (x := r15) (tgt := 99) hx hb dX7_judge_93 (by decide) (fun (c18 : ¬ (r15 = 0)) => ?_) (fun (c18 : r15 = 0) => ?_)
      · skip
        refine lv_iinc (v := 2) (lv' := [(4, .int 2), (5, .int ((kRemL (p1 / 1) 1000).toInt32)), (0, .ref h0), (1, .int 2), (2, .long p1)]) hx hb dX7_judge_99 hl28 (k := 1) rfl (by decide +kernel) (by decide) rfl (fun ls32 hl32 => ?_)
        refine lv_goto (tgt := 44) hx hb dX7_judge_102 (by decide) ?_
        refine lv_iload hx hb dX7_judge_44 (lv_at hl32 0 rfl) ?_
        refine lv_iload_n hx hb dX7_judge_46 rfl (lv_at hl32 3 rfl) ?_
        refine lv_icmp_ge (x := 2) (y := 2) (tgt := 105) hx hb dX7_judge_47 (by decide) (fun (c19 : 2 ≤ 2) => ?_) (fun (c19 : ¬ (2 ≤ 2)) => absurd (by decide) c19)
        refine lv_bipush (v := (-9)) hx hb dX7_judge_105 (by decide) ?_
        have er : r_X7_judge_2 Z pg tr p1 = (-9) := by rw [r_X7_judge_2]; (try rw [hr4]); (try rw [hF10]); (try rw [hF11]); (try rw [hr9]); (try rw [hF16]); (try rw [hF17]); (try rw [hr15]); rw [if_neg c5, if_neg c12, if_neg c18]
        have e0 : s_X7_judge_2_Z Z pg tr p1 = F16 := by rw [s_X7_judge_2_Z]; (try rw [hr4]); (try rw [hF10]); (try rw [hF11]); (try rw [hr9]); (try rw [hF16]); (try rw [hF17]); (try rw [hr15]); rw [if_neg c5, if_neg c12, if_neg c18]
        have e1 : s_X7_judge_2_tr Z pg tr p1 = F17 := by rw [s_X7_judge_2_tr]; (try rw [hr4]); (try rw [hF10]); (try rw [hF11]); (try rw [hr9]); (try rw [hF16]); (try rw [hF17]); (try rw [hr15]); rw [if_neg c5, if_neg c12, if_neg c18]
        exact k_iret kx hK hP30 hD31 hS29 (u := (F16, F17)) rfl ⟨er.symm, e0.symm, e1.symm⟩ dX7_judge_107
      · skip
        refine lv_iload hx hb dX7_judge_96 (lv_at hl28 1 rfl) ?_
        have er : r_X7_judge_2 Z pg tr p1 = 1 := by rw [r_X7_judge_2]; (try rw [hr4]); (try rw [hF10]); (try rw [hF11]); (try rw [hr9]); (try rw [hF16]); (try rw [hF17]); (try rw [hr15]); rw [if_neg c5, if_neg c12, if_pos c18]
        have e0 : s_X7_judge_2_Z Z pg tr p1 = F16 := by rw [s_X7_judge_2_Z]; (try rw [hr4]); (try rw [hF10]); (try rw [hF11]); (try rw [hr9]); (try rw [hF16]); (try rw [hF17]); (try rw [hr15]); rw [if_neg c5, if_neg c12, if_pos c18]
        have e1 : s_X7_judge_2_tr Z pg tr p1 = F17 := by rw [s_X7_judge_2_tr]; (try rw [hr4]); (try rw [hF10]); (try rw [hF11]); (try rw [hr9]); (try rw [hF16]); (try rw [hF17]); (try rw [hr15]); rw [if_neg c5, if_neg c12, if_pos c18]
        exact k_iret kx hK hP30 hD31 hS29 (u := (F16, F17)) rfl ⟨er.symm, e0.symm, e1.symm⟩ dX7_judge_98
    · skip
      refine lv_iload hx hb dX7_judge_96 (lv_at hl20 1 rfl) ?_
      have er : r_X7_judge_2 Z pg tr p1 = 0 := by rw [r_X7_judge_2]; (try rw [hr4]); (try rw [hF10]); (try rw [hF11]); (try rw [hr9]); rw [if_neg c5, if_pos c12]
      have e0 : s_X7_judge_2_Z Z pg tr p1 = F10 := by rw [s_X7_judge_2_Z]; (try rw [hr4]); (try rw [hF10]); (try rw [hF11]); (try rw [hr9]); rw [if_neg c5, if_pos c12]
      have e1 : s_X7_judge_2_tr Z pg tr p1 = F11 := by rw [s_X7_judge_2_tr]; (try rw [hr4]); (try rw [hF10]); (try rw [hF11]); (try rw [hr9]); rw [if_neg c5, if_pos c12]
      exact k_iret kx hK hP22 hD23 hS21 (u := (F10, F11)) rfl ⟨er.symm, e0.symm, e1.symm⟩ dX7_judge_98
  · skip
    refine lv_bipush (v := (-2)) hx hb dX7_judge_34 (by decide) ?_
    have er : r_X7_judge_2 Z pg tr p1 = (-2) := by rw [r_X7_judge_2]; (try rw [hr4]); rw [if_pos c5]
    have e0 : s_X7_judge_2_Z Z pg tr p1 = upd Z 0 0 := by rw [s_X7_judge_2_Z]; (try rw [hr4]); rw [if_pos c5]
    have e1 : s_X7_judge_2_tr Z pg tr p1 = tr := by rw [s_X7_judge_2_tr]; (try rw [hr4]); rw [if_pos c5]
    exact k_iret kx hK hP11 hD12 hS10 (u := (upd Z 0 0, tr)) rfl ⟨er.symm, e0.symm, e1.symm⟩ dX7_judge_36

def r_X7_judge_3 (Z : Nat → Int32) (pg : Nat → Int32) (tr : Nat → Int32) (p1 : Int64) : Int32 := if (r_X7_in p1 0 999999999) = 0 then (-2) else if (r_X7_does (s_X7_lay_t pg tr) (((kRemL (p1 / 1000000) 1000).toInt32) / 100) (kRem (((kRemL (p1 / 1000000) 1000).toInt32) / 10) 10) (kRem ((kRemL (p1 / 1000000) 1000).toInt32) 10)) = 0 then 0 else if (r_X7_does (s_X7_does_tr (upd (upd (upd (upd Z 0 0) 18 (-9)) 20 0) 21 6) (s_X7_lay_t pg tr) (((kRemL (p1 / 1000000) 1000).toInt32) / 100) (kRem (((kRemL (p1 / 1000000) 1000).toInt32) / 10) 10) (kRem ((kRemL (p1 / 1000000) 1000).toInt32) 10)) (((kRemL (p1 / 1000) 1000).toInt32) / 100) (kRem (((kRemL (p1 / 1000) 1000).toInt32) / 10) 10) (kRem ((kRemL (p1 / 1000) 1000).toInt32) 10)) = 0 then 1 else if (r_X7_does (s_X7_does_tr (s_X7_does_Z (upd (upd (upd (upd Z 0 0) 18 (-9)) 20 0) 21 6) (s_X7_lay_t pg tr) (((kRemL (p1 / 1000000) 1000).toInt32) / 100) (kRem (((kRemL (p1 / 1000000) 1000).toInt32) / 10) 10) (kRem ((kRemL (p1 / 1000000) 1000).toInt32) 10)) (s_X7_does_tr (upd (upd (upd (upd Z 0 0) 18 (-9)) 20 0) 21 6) (s_X7_lay_t pg tr) (((kRemL (p1 / 1000000) 1000).toInt32) / 100) (kRem (((kRemL (p1 / 1000000) 1000).toInt32) / 10) 10) (kRem ((kRemL (p1 / 1000000) 1000).toInt32) 10)) (((kRemL (p1 / 1000) 1000).toInt32) / 100) (kRem (((kRemL (p1 / 1000) 1000).toInt32) / 10) 10) (kRem ((kRemL (p1 / 1000) 1000).toInt32) 10)) (((kRemL (p1 / 1) 1000).toInt32) / 100) (kRem (((kRemL (p1 / 1) 1000).toInt32) / 10) 10) (kRem ((kRemL (p1 / 1) 1000).toInt32) 10)) = 0 then 2 else (-9)
def s_X7_judge_3_Z (Z : Nat → Int32) (pg : Nat → Int32) (tr : Nat → Int32) (p1 : Int64) : Nat → Int32 := if (r_X7_in p1 0 999999999) = 0 then (upd Z 0 0) else if (r_X7_does (s_X7_lay_t pg tr) (((kRemL (p1 / 1000000) 1000).toInt32) / 100) (kRem (((kRemL (p1 / 1000000) 1000).toInt32) / 10) 10) (kRem ((kRemL (p1 / 1000000) 1000).toInt32) 10)) = 0 then (s_X7_does_Z (upd (upd (upd (upd Z 0 0) 18 (-9)) 20 0) 21 6) (s_X7_lay_t pg tr) (((kRemL (p1 / 1000000) 1000).toInt32) / 100) (kRem (((kRemL (p1 / 1000000) 1000).toInt32) / 10) 10) (kRem ((kRemL (p1 / 1000000) 1000).toInt32) 10)) else if (r_X7_does (s_X7_does_tr (upd (upd (upd (upd Z 0 0) 18 (-9)) 20 0) 21 6) (s_X7_lay_t pg tr) (((kRemL (p1 / 1000000) 1000).toInt32) / 100) (kRem (((kRemL (p1 / 1000000) 1000).toInt32) / 10) 10) (kRem ((kRemL (p1 / 1000000) 1000).toInt32) 10)) (((kRemL (p1 / 1000) 1000).toInt32) / 100) (kRem (((kRemL (p1 / 1000) 1000).toInt32) / 10) 10) (kRem ((kRemL (p1 / 1000) 1000).toInt32) 10)) = 0 then (s_X7_does_Z (s_X7_does_Z (upd (upd (upd (upd Z 0 0) 18 (-9)) 20 0) 21 6) (s_X7_lay_t pg tr) (((kRemL (p1 / 1000000) 1000).toInt32) / 100) (kRem (((kRemL (p1 / 1000000) 1000).toInt32) / 10) 10) (kRem ((kRemL (p1 / 1000000) 1000).toInt32) 10)) (s_X7_does_tr (upd (upd (upd (upd Z 0 0) 18 (-9)) 20 0) 21 6) (s_X7_lay_t pg tr) (((kRemL (p1 / 1000000) 1000).toInt32) / 100) (kRem (((kRemL (p1 / 1000000) 1000).toInt32) / 10) 10) (kRem ((kRemL (p1 / 1000000) 1000).toInt32) 10)) (((kRemL (p1 / 1000) 1000).toInt32) / 100) (kRem (((kRemL (p1 / 1000) 1000).toInt32) / 10) 10) (kRem ((kRemL (p1 / 1000) 1000).toInt32) 10)) else if (r_X7_does (s_X7_does_tr (s_X7_does_Z (upd (upd (upd (upd Z 0 0) 18 (-9)) 20 0) 21 6) (s_X7_lay_t pg tr) (((kRemL (p1 / 1000000) 1000).toInt32) / 100) (kRem (((kRemL (p1 / 1000000) 1000).toInt32) / 10) 10) (kRem ((kRemL (p1 / 1000000) 1000).toInt32) 10)) (s_X7_does_tr (upd (upd (upd (upd Z 0 0) 18 (-9)) 20 0) 21 6) (s_X7_lay_t pg tr) (((kRemL (p1 / 1000000) 1000).toInt32) / 100) (kRem (((kRemL (p1 / 1000000) 1000).toInt32) / 10) 10) (kRem ((kRemL (p1 / 1000000) 1000).toInt32) 10)) (((kRemL (p1 / 1000) 1000).toInt32) / 100) (kRem (((kRemL (p1 / 1000) 1000).toInt32) / 10) 10) (kRem ((kRemL (p1 / 1000) 1000).toInt32) 10)) (((kRemL (p1 / 1) 1000).toInt32) / 100) (kRem (((kRemL (p1 / 1) 1000).toInt32) / 10) 10) (kRem ((kRemL (p1 / 1) 1000).toInt32) 10)) = 0 then (s_X7_does_Z (s_X7_does_Z (s_X7_does_Z (upd (upd (upd (upd Z 0 0) 18 (-9)) 20 0) 21 6) (s_X7_lay_t pg tr) (((kRemL (p1 / 1000000) 1000).toInt32) / 100) (kRem (((kRemL (p1 / 1000000) 1000).toInt32) / 10) 10) (kRem ((kRemL (p1 / 1000000) 1000).toInt32) 10)) (s_X7_does_tr (upd (upd (upd (upd Z 0 0) 18 (-9)) 20 0) 21 6) (s_X7_lay_t pg tr) (((kRemL (p1 / 1000000) 1000).toInt32) / 100) (kRem (((kRemL (p1 / 1000000) 1000).toInt32) / 10) 10) (kRem ((kRemL (p1 / 1000000) 1000).toInt32) 10)) (((kRemL (p1 / 1000) 1000).toInt32) / 100) (kRem (((kRemL (p1 / 1000) 1000).toInt32) / 10) 10) (kRem ((kRemL (p1 / 1000) 1000).toInt32) 10)) (s_X7_does_tr (s_X7_does_Z (upd (upd (upd (upd Z 0 0) 18 (-9)) 20 0) 21 6) (s_X7_lay_t pg tr) (((kRemL (p1 / 1000000) 1000).toInt32) / 100) (kRem (((kRemL (p1 / 1000000) 1000).toInt32) / 10) 10) (kRem ((kRemL (p1 / 1000000) 1000).toInt32) 10)) (s_X7_does_tr (upd (upd (upd (upd Z 0 0) 18 (-9)) 20 0) 21 6) (s_X7_lay_t pg tr) (((kRemL (p1 / 1000000) 1000).toInt32) / 100) (kRem (((kRemL (p1 / 1000000) 1000).toInt32) / 10) 10) (kRem ((kRemL (p1 / 1000000) 1000).toInt32) 10)) (((kRemL (p1 / 1000) 1000).toInt32) / 100) (kRem (((kRemL (p1 / 1000) 1000).toInt32) / 10) 10) (kRem ((kRemL (p1 / 1000) 1000).toInt32) 10)) (((kRemL (p1 / 1) 1000).toInt32) / 100) (kRem (((kRemL (p1 / 1) 1000).toInt32) / 10) 10) (kRem ((kRemL (p1 / 1) 1000).toInt32) 10)) else s_X7_does_Z (s_X7_does_Z (s_X7_does_Z (upd (upd (upd (upd Z 0 0) 18 (-9)) 20 0) 21 6) (s_X7_lay_t pg tr) (((kRemL (p1 / 1000000) 1000).toInt32) / 100) (kRem (((kRemL (p1 / 1000000) 1000).toInt32) / 10) 10) (kRem ((kRemL (p1 / 1000000) 1000).toInt32) 10)) (s_X7_does_tr (upd (upd (upd (upd Z 0 0) 18 (-9)) 20 0) 21 6) (s_X7_lay_t pg tr) (((kRemL (p1 / 1000000) 1000).toInt32) / 100) (kRem (((kRemL (p1 / 1000000) 1000).toInt32) / 10) 10) (kRem ((kRemL (p1 / 1000000) 1000).toInt32) 10)) (((kRemL (p1 / 1000) 1000).toInt32) / 100) (kRem (((kRemL (p1 / 1000) 1000).toInt32) / 10) 10) (kRem ((kRemL (p1 / 1000) 1000).toInt32) 10)) (s_X7_does_tr (s_X7_does_Z (upd (upd (upd (upd Z 0 0) 18 (-9)) 20 0) 21 6) (s_X7_lay_t pg tr) (((kRemL (p1 / 1000000) 1000).toInt32) / 100) (kRem (((kRemL (p1 / 1000000) 1000).toInt32) / 10) 10) (kRem ((kRemL (p1 / 1000000) 1000).toInt32) 10)) (s_X7_does_tr (upd (upd (upd (upd Z 0 0) 18 (-9)) 20 0) 21 6) (s_X7_lay_t pg tr) (((kRemL (p1 / 1000000) 1000).toInt32) / 100) (kRem (((kRemL (p1 / 1000000) 1000).toInt32) / 10) 10) (kRem ((kRemL (p1 / 1000000) 1000).toInt32) 10)) (((kRemL (p1 / 1000) 1000).toInt32) / 100) (kRem (((kRemL (p1 / 1000) 1000).toInt32) / 10) 10) (kRem ((kRemL (p1 / 1000) 1000).toInt32) 10)) (((kRemL (p1 / 1) 1000).toInt32) / 100) (kRem (((kRemL (p1 / 1) 1000).toInt32) / 10) 10) (kRem ((kRemL (p1 / 1) 1000).toInt32) 10)
def s_X7_judge_3_tr (Z : Nat → Int32) (pg : Nat → Int32) (tr : Nat → Int32) (p1 : Int64) : Nat → Int32 := if (r_X7_in p1 0 999999999) = 0 then tr else if (r_X7_does (s_X7_lay_t pg tr) (((kRemL (p1 / 1000000) 1000).toInt32) / 100) (kRem (((kRemL (p1 / 1000000) 1000).toInt32) / 10) 10) (kRem ((kRemL (p1 / 1000000) 1000).toInt32) 10)) = 0 then (s_X7_does_tr (upd (upd (upd (upd Z 0 0) 18 (-9)) 20 0) 21 6) (s_X7_lay_t pg tr) (((kRemL (p1 / 1000000) 1000).toInt32) / 100) (kRem (((kRemL (p1 / 1000000) 1000).toInt32) / 10) 10) (kRem ((kRemL (p1 / 1000000) 1000).toInt32) 10)) else if (r_X7_does (s_X7_does_tr (upd (upd (upd (upd Z 0 0) 18 (-9)) 20 0) 21 6) (s_X7_lay_t pg tr) (((kRemL (p1 / 1000000) 1000).toInt32) / 100) (kRem (((kRemL (p1 / 1000000) 1000).toInt32) / 10) 10) (kRem ((kRemL (p1 / 1000000) 1000).toInt32) 10)) (((kRemL (p1 / 1000) 1000).toInt32) / 100) (kRem (((kRemL (p1 / 1000) 1000).toInt32) / 10) 10) (kRem ((kRemL (p1 / 1000) 1000).toInt32) 10)) = 0 then (s_X7_does_tr (s_X7_does_Z (upd (upd (upd (upd Z 0 0) 18 (-9)) 20 0) 21 6) (s_X7_lay_t pg tr) (((kRemL (p1 / 1000000) 1000).toInt32) / 100) (kRem (((kRemL (p1 / 1000000) 1000).toInt32) / 10) 10) (kRem ((kRemL (p1 / 1000000) 1000).toInt32) 10)) (s_X7_does_tr (upd (upd (upd (upd Z 0 0) 18 (-9)) 20 0) 21 6) (s_X7_lay_t pg tr) (((kRemL (p1 / 1000000) 1000).toInt32) / 100) (kRem (((kRemL (p1 / 1000000) 1000).toInt32) / 10) 10) (kRem ((kRemL (p1 / 1000000) 1000).toInt32) 10)) (((kRemL (p1 / 1000) 1000).toInt32) / 100) (kRem (((kRemL (p1 / 1000) 1000).toInt32) / 10) 10) (kRem ((kRemL (p1 / 1000) 1000).toInt32) 10)) else if (r_X7_does (s_X7_does_tr (s_X7_does_Z (upd (upd (upd (upd Z 0 0) 18 (-9)) 20 0) 21 6) (s_X7_lay_t pg tr) (((kRemL (p1 / 1000000) 1000).toInt32) / 100) (kRem (((kRemL (p1 / 1000000) 1000).toInt32) / 10) 10) (kRem ((kRemL (p1 / 1000000) 1000).toInt32) 10)) (s_X7_does_tr (upd (upd (upd (upd Z 0 0) 18 (-9)) 20 0) 21 6) (s_X7_lay_t pg tr) (((kRemL (p1 / 1000000) 1000).toInt32) / 100) (kRem (((kRemL (p1 / 1000000) 1000).toInt32) / 10) 10) (kRem ((kRemL (p1 / 1000000) 1000).toInt32) 10)) (((kRemL (p1 / 1000) 1000).toInt32) / 100) (kRem (((kRemL (p1 / 1000) 1000).toInt32) / 10) 10) (kRem ((kRemL (p1 / 1000) 1000).toInt32) 10)) (((kRemL (p1 / 1) 1000).toInt32) / 100) (kRem (((kRemL (p1 / 1) 1000).toInt32) / 10) 10) (kRem ((kRemL (p1 / 1) 1000).toInt32) 10)) = 0 then (s_X7_does_tr (s_X7_does_Z (s_X7_does_Z (upd (upd (upd (upd Z 0 0) 18 (-9)) 20 0) 21 6) (s_X7_lay_t pg tr) (((kRemL (p1 / 1000000) 1000).toInt32) / 100) (kRem (((kRemL (p1 / 1000000) 1000).toInt32) / 10) 10) (kRem ((kRemL (p1 / 1000000) 1000).toInt32) 10)) (s_X7_does_tr (upd (upd (upd (upd Z 0 0) 18 (-9)) 20 0) 21 6) (s_X7_lay_t pg tr) (((kRemL (p1 / 1000000) 1000).toInt32) / 100) (kRem (((kRemL (p1 / 1000000) 1000).toInt32) / 10) 10) (kRem ((kRemL (p1 / 1000000) 1000).toInt32) 10)) (((kRemL (p1 / 1000) 1000).toInt32) / 100) (kRem (((kRemL (p1 / 1000) 1000).toInt32) / 10) 10) (kRem ((kRemL (p1 / 1000) 1000).toInt32) 10)) (s_X7_does_tr (s_X7_does_Z (upd (upd (upd (upd Z 0 0) 18 (-9)) 20 0) 21 6) (s_X7_lay_t pg tr) (((kRemL (p1 / 1000000) 1000).toInt32) / 100) (kRem (((kRemL (p1 / 1000000) 1000).toInt32) / 10) 10) (kRem ((kRemL (p1 / 1000000) 1000).toInt32) 10)) (s_X7_does_tr (upd (upd (upd (upd Z 0 0) 18 (-9)) 20 0) 21 6) (s_X7_lay_t pg tr) (((kRemL (p1 / 1000000) 1000).toInt32) / 100) (kRem (((kRemL (p1 / 1000000) 1000).toInt32) / 10) 10) (kRem ((kRemL (p1 / 1000000) 1000).toInt32) 10)) (((kRemL (p1 / 1000) 1000).toInt32) / 100) (kRem (((kRemL (p1 / 1000) 1000).toInt32) / 10) 10) (kRem ((kRemL (p1 / 1000) 1000).toInt32) 10)) (((kRemL (p1 / 1) 1000).toInt32) / 100) (kRem (((kRemL (p1 / 1) 1000).toInt32) / 10) 10) (kRem ((kRemL (p1 / 1) 1000).toInt32) 10)) else s_X7_does_tr (s_X7_does_Z (s_X7_does_Z (upd (upd (upd (upd Z 0 0) 18 (-9)) 20 0) 21 6) (s_X7_lay_t pg tr) (((kRemL (p1 / 1000000) 1000).toInt32) / 100) (kRem (((kRemL (p1 / 1000000) 1000).toInt32) / 10) 10) (kRem ((kRemL (p1 / 1000000) 1000).toInt32) 10)) (s_X7_does_tr (upd (upd (upd (upd Z 0 0) 18 (-9)) 20 0) 21 6) (s_X7_lay_t pg tr) (((kRemL (p1 / 1000000) 1000).toInt32) / 100) (kRem (((kRemL (p1 / 1000000) 1000).toInt32) / 10) 10) (kRem ((kRemL (p1 / 1000000) 1000).toInt32) 10)) (((kRemL (p1 / 1000) 1000).toInt32) / 100) (kRem (((kRemL (p1 / 1000) 1000).toInt32) / 10) 10) (kRem ((kRemL (p1 / 1000) 1000).toInt32) 10)) (s_X7_does_tr (s_X7_does_Z (upd (upd (upd (upd Z 0 0) 18 (-9)) 20 0) 21 6) (s_X7_lay_t pg tr) (((kRemL (p1 / 1000000) 1000).toInt32) / 100) (kRem (((kRemL (p1 / 1000000) 1000).toInt32) / 10) 10) (kRem ((kRemL (p1 / 1000000) 1000).toInt32) 10)) (s_X7_does_tr (upd (upd (upd (upd Z 0 0) 18 (-9)) 20 0) 21 6) (s_X7_lay_t pg tr) (((kRemL (p1 / 1000000) 1000).toInt32) / 100) (kRem (((kRemL (p1 / 1000000) 1000).toInt32) / 10) 10) (kRem ((kRemL (p1 / 1000000) 1000).toInt32) 10)) (((kRemL (p1 / 1000) 1000).toInt32) / 100) (kRem (((kRemL (p1 / 1000) 1000).toInt32) / 10) 10) (kRem ((kRemL (p1 / 1000) 1000).toInt32) 10)) (((kRemL (p1 / 1) 1000).toInt32) / 100) (kRem (((kRemL (p1 / 1) 1000).toInt32) / 10) 10) (kRem ((kRemL (p1 / 1) 1000).toInt32) 10)
set_option maxHeartbeats 4000000 in
set_option maxRecDepth 100000 in
theorem c_X7_judge_3 (l : Launch) (G : kG) (Z : Nat → Int32) (sd : Int64) (h0 : Nat) (q1 : Nat) (q2 : Nat) (q3 : Nat) (q4 : Nat) (q5 : Nat) (q6 : Nat) (q7 : Nat) (q8 : Nat) (q9 : Nat) (q10 : Nat) (q11 : Nat) (pg : Nat → Int32) (tr : Nat → Int32) (p1 : Int64) : cG l G yX7_judge cX7_judge 6 (some .int) 7 [.ref h0, .int 3, .long p1] ([(h0, .inr (7, cM Z q1 q2 q3 q4 q5 q6 q7 q8 q9 q10 q11 sd)), (q4, .inl (G.2.1, 55, .inl pg)), (q5, .inl (G.2.1, 55, .inl tr))]) (qI G (fun (r : Int32) (u : ((Nat → Int32) × (Nat → Int32))) => r = r_X7_judge_3 Z pg tr p1 ∧ u.1 = s_X7_judge_3_Z Z pg tr p1 ∧ u.2 = s_X7_judge_3_tr Z pg tr p1) (fun u => [(h0, .inr (7, cM u.1 q1 q2 q3 q4 q5 q6 q7 q8 q9 q10 q11 sd)), (q4, .inl (G.2.1, 55, .inl pg)), (q5, .inl (G.2.1, 55, .inl u.2))])) := by
  refine kintro (by decide) (Nat.le_of_ble_eq_true rfl) ?_
  intro p e s m args below meth c A ls kx hK hP hD hS hA hl
  have kx : kX p s m args meth c cX7_judge 6 (some .int) RX7 := kx
  have hx := kx.1
  have hb := kx.2.1
  have hown := kx.2.2.2.2.1
  have ht := kx.2.2.2.2.2.2
  have hl : lv_has ls 6 [(0, .ref h0), (1, .int 3), (2, .long p1)] := hl
  refine lv_aload_n hx hb dX7_judge_0 rfl (lv_at hl 0 rfl) ?_
  refine lv_iconst (v := 0) hx hb dX7_judge_1 (by decide) ?_
  refine va_put (ci := 7) (v := .int 0) (ty := .int) (C := RX7) (T := TX7) (N := 22) hx hb ht inX7 tyX7 tyX7_ok nmX7 hown hK.1 hP hD hS 0 rfl rfl 0 (by decide) (ht _ q_666) (fun _ h9 => h9) rfl (by decide +kernel) rfl rfl (Nat.le_of_ble_eq_true rfl) dX7_judge_2 (fun H1 locs1 hP1 hD1 hS1 => ?_)
  have hP2 : va_P G.1 vwCl ([(h0, .inr (7, cM (upd Z 0 0) q1 q2 q3 q4 q5 q6 q7 q8 q9 q10 q11 sd)), (q4, .inl (G.2.1, 55, .inl pg)), (q5, .inl (G.2.1, 55, .inl tr))]) H1 := hP1
  have hD3 : va_D A ([(h0, .inr (7, cM (upd Z 0 0) q1 q2 q3 q4 q5 q6 q7 q8 q9 q10 q11 sd)), (q4, .inl (G.2.1, 55, .inl pg)), (q5, .inl (G.2.1, 55, .inl tr))]) := hD1
  refine lv_iload_n hx hb dX7_judge_5 rfl (lv_at hl 1 rfl) ?_
  refine lv_i2l (v := 3) hx hb dX7_judge_6 (by decide +kernel) ?_
  refine lv_lconst (v := 1) hx hb dX7_judge_7 (by decide) ?_
  refine lv_ldc2 (v := 4) hx hb hown (ht _ q_842) dX7_judge_8 ?_
  refine k_calli (kRunS (As := [.long 3, .long 1, .long 4]) (rest := []) kx (c_X7_in_314 l G ) q_740 q_738 q_36 q_739 nX7_in ⟨Nat.le_of_ble_eq_true rfl, Nat.le_of_ble_eq_true rfl⟩ hK hP2 hD3 (kCtx_nil _) rfl hl.1 (Nat.le_of_ble_eq_true rfl) dX7_judge_11 ⟨Nat.zero_le _, Nat.zero_le _⟩) hP2 hD3 hS1 hA (kCtx_nil _) (fun _ => rfl) (fun r1 _ H4 locs4 hw hP4 hD4 hS4 => ?_)
  have hr1 : 1 = r1 := (show r1 = 1 from hw).symm
  subst hr1
  have hP5 : va_P G.1 vwCl ([(h0, .inr (7, cM (upd Z 0 0) q1 q2 q3 q4 q5 q6 q7 q8 q9 q10 q11 sd)), (q4, .inl (G.2.1, 55, .inl pg)), (q5, .inl (G.2.1, 55, .inl tr))]) H4 := hP4
  have hD6 : va_D A ([(h0, .inr (7, cM (upd Z 0 0) q1 q2 q3 q4 q5 q6 q7 q8 q9 q10 q11 sd)), (q4, .inl (G.2.1, 55, .inl pg)), (q5, .inl (G.2.1, 55, .inl tr))]) := hD4
  refine lv_if_eq (x := 1) (tgt := 34) hx hb dX7_judge_14 (by decide) (fun (c2 : 1 = 0) => absurd c2 (by decide)) (fun (c2 : ¬ (1 = 0)) => ?_)
  refine lv_lload_n hx hb dX7_judge_17 rfl (lv_at hl 2 rfl) ?_
  refine lv_lconst (v := 0) hx hb dX7_judge_18 (by decide) ?_
  refine lv_ldc2 (v := 1000) hx hb hown (ht _ q_907) dX7_judge_19 ?_
  refine lv_iload_n hx hb dX7_judge_22 rfl (lv_at hl 1 rfl) ?_
  refine k_calll (kRunS (As := [.long 1000, .int 3]) (rest := [.long 0, .long p1]) kx (c_X7_longPower_3 l G ) q_910 q_908 q_36 q_909 nX7_longPower ⟨Nat.le_of_ble_eq_true rfl, Nat.le_of_ble_eq_true rfl⟩ hK hP5 hD6 (kCtx_nil _) rfl hl.1 (Nat.le_of_ble_eq_true rfl) dX7_judge_23 ⟨Nat.zero_le _, Nat.zero_le _⟩) hP5 hD6 hS4 hA (kCtx_nil _) (fun _ => rfl) (fun r3 _ H7 locs7 hw hP7 hD7 hS7 => ?_)
  have hr3 : 1000000000 = r3 := (show r3 = 1000000000 from hw).symm
  subst hr3
  have hP8 : va_P G.1 vwCl ([(h0, .inr (7, cM (upd Z 0 0) q1 q2 q3 q4 q5 q6 q7 q8 q9 q10 q11 sd)), (q4, .inl (G.2.1, 55, .inl pg)), (q5, .inl (G.2.1, 55, .inl tr))]) H7 := hP7
  have hD9 : va_D A ([(h0, .inr (7, cM (upd Z 0 0) q1 q2 q3 q4 q5 q6 q7 q8 q9 q10 q11 sd)), (q4, .inl (G.2.1, 55, .inl pg)), (q5, .inl (G.2.1, 55, .inl tr))]) := hD7
  refine lv_lconst (v := 1) hx hb dX7_judge_26 (by decide) ?_
  refine lv_lsub hx hb dX7_judge_27 ?_
  refine k_topl (y := 999999999) (by decide +kernel) ?_
  refine k_calli (kRunS (As := [.long p1, .long 0, .long 999999999]) (rest := []) kx (c_X7_in l G p1 0 999999999) q_740 q_738 q_36 q_739 nX7_in ⟨Nat.le_of_ble_eq_true rfl, Nat.le_of_ble_eq_true rfl⟩ hK hP8 hD9 (kCtx_nil _) rfl hl.1 (Nat.le_of_ble_eq_true rfl) dX7_judge_28 ⟨Nat.zero_le _, Nat.zero_le _⟩) hP8 hD9 hS7 hA (kCtx_nil _) (fun _ => rfl) (fun r4 _ H10 locs10 hw hP10 hD10 hS10 => ?_)
  have hr4 : r_X7_in p1 0 999999999 = r4 := (show r4 = r_X7_in p1 0 999999999 from hw).symm
  have hP11 : va_P G.1 vwCl ([(h0, .inr (7, cM (upd Z 0 0) q1 q2 q3 q4 q5 q6 q7 q8 q9 q10 q11 sd)), (q4, .inl (G.2.1, 55, .inl pg)), (q5, .inl (G.2.1, 55, .inl tr))]) H10 := hP10
  have hD12 : va_D A ([(h0, .inr (7, cM (upd Z 0 0) q1 q2 q3 q4 q5 q6 q7 q8 q9 q10 q11 sd)), (q4, .inl (G.2.1, 55, .inl pg)), (q5, .inl (G.2.1, 55, .inl tr))]) := hD10
  refine lv_if_ne (x := r4) (tgt := 37) hx hb dX7_judge_31 (by decide) (fun (c5 : ¬ (r4 = 0)) => ?_) (fun (c5 : r4 = 0) => ?_)
  · skip
    refine lv_aload_n hx hb dX7_judge_37 rfl (lv_at hl 0 rfl) ?_
    refine k_callv (kRunV (As := []) (rest := []) kx (c_X7_layTrial l G (upd Z 0 0) sd h0 q1 q2 q3 q4 q5 q6 q7 q8 q9 q10 q11 pg tr) q_774 q_771 q_36 q_773 q_16 nX7_layTrial ⟨Nat.le_of_ble_eq_true rfl, Nat.le_of_ble_eq_true rfl⟩ hK hP11 hD12 (kCtx_all _) 0 7 rfl rfl rfl rfl hl.1 (Nat.le_of_ble_eq_true rfl) dX7_judge_38 ⟨Nat.zero_le _, Nat.zero_le _⟩) hP11 hD12 hS10 hA (kCtx_all _) (fun _ => rfl) (fun _ H13 locs13 hw hP13 hD13 hS13 => ?_)
    have hP14 : va_P G.1 vwCl ([(h0, .inr (7, cM (upd (upd (upd (upd Z 0 0) 18 (-9)) 20 0) 21 6) q1 q2 q3 q4 q5 q6 q7 q8 q9 q10 q11 sd)), (q4, .inl (G.2.1, 55, .inl pg)), (q5, .inl (G.2.1, 55, .inl (s_X7_lay_t pg tr)))]) H13 := hP13
    have hD15 : va_D A ([(h0, .inr (7, cM (upd (upd (upd (upd Z 0 0) 18 (-9)) 20 0) 21 6) q1 q2 q3 q4 q5 q6 q7 q8 q9 q10 q11 sd)), (q4, .inl (G.2.1, 55, .inl pg)), (q5, .inl (G.2.1, 55, .inl (s_X7_lay_t pg tr)))]) := hD13
    refine lv_iconst (v := 0) hx hb dX7_judge_41 (by decide) ?_
    refine lv_istore (lv' := [(4, .int 0), (0, .ref h0), (1, .int 3), (2, .long p1)]) hx hb dX7_judge_42 hl (by decide) rfl (fun ls16 hl16 => ?_)
    refine lv_iload hx hb dX7_judge_44 (lv_at hl16 0 rfl) ?_
    refine lv_iload_n hx hb dX7_judge_46 rfl (lv_at hl16 2 rfl) ?_
    refine lv_icmp_ge (x := 0) (y := 3) (tgt := 105) hx hb dX7_judge_47 (by decide) (fun (c7 : 3 ≤ 0) => absurd c7 (by decide)) (fun (c7 : ¬ (3 ≤ 0)) => ?_)
    refine lv_lload_n hx hb dX7_judge_50 rfl (lv_at hl16 3 rfl) ?_
    refine lv_ldc2 (v := 1000) hx hb hown (ht _ q_907) dX7_judge_51 ?_
    refine lv_iload_n hx hb dX7_judge_54 rfl (lv_at hl16 2 rfl) ?_
    refine lv_iconst (v := 1) hx hb dX7_judge_55 (by decide) ?_
    refine lv_isub hx hb dX7_judge_56 ?_
    refine k_top (y := 2) (by decide +kernel) ?_
    refine lv_iload hx hb dX7_judge_57 (lv_at hl16 0 rfl) ?_
    refine lv_isub hx hb dX7_judge_59 ?_
    refine k_top (y := 2) (by decide +kernel) ?_
    refine k_calll (kRunS (As := [.long 1000, .int 2]) (rest := [.long p1]) kx (c_X7_longPower_2 l G ) q_910 q_908 q_36 q_909 nX7_longPower ⟨Nat.le_of_ble_eq_true rfl, Nat.le_of_ble_eq_true rfl⟩ hK hP14 hD15 (kCtx_nil _) rfl hl16.1 (Nat.le_of_ble_eq_true rfl) dX7_judge_60 ⟨Nat.zero_le _, Nat.zero_le _⟩) hP14 hD15 hS13 hA (kCtx_nil _) (fun _ => rfl) (fun r8 _ H17 locs17 hw hP17 hD17 hS17 => ?_)
    have hr8 : 1000000 = r8 := (show r8 = 1000000 from hw).symm
    subst hr8
    have hP18 : va_P G.1 vwCl ([(h0, .inr (7, cM (upd (upd (upd (upd Z 0 0) 18 (-9)) 20 0) 21 6) q1 q2 q3 q4 q5 q6 q7 q8 q9 q10 q11 sd)), (q4, .inl (G.2.1, 55, .inl pg)), (q5, .inl (G.2.1, 55, .inl (s_X7_lay_t pg tr)))]) H17 := hP17
    have hD19 : va_D A ([(h0, .inr (7, cM (upd (upd (upd (upd Z 0 0) 18 (-9)) 20 0) 21 6) q1 q2 q3 q4 q5 q6 q7 q8 q9 q10 q11 sd)), (q4, .inl (G.2.1, 55, .inl pg)), (q5, .inl (G.2.1, 55, .inl (s_X7_lay_t pg tr)))]) := hD17
    refine lv_ldiv hx hb dX7_judge_63 (by decide) ?_
    refine lv_ldc2 (v := 1000) hx hb hown (ht _ q_907) dX7_judge_64 ?_
    refine lv_lrem hx hb dX7_judge_67 (by decide) ?_
    refine k_topl (y := kRemL (p1 / 1000000) 1000) rfl ?_
    refine lv_l2i (v := (kRemL (p1 / 1000000) 1000).toInt32) hx hb dX7_judge_68 rfl ?_
    refine lv_istore (lv' := [(5, .int ((kRemL (p1 / 1000000) 1000).toInt32)), (4, .int 0), (0, .ref h0), (1, .int 3), (2, .long p1)]) hx hb dX7_judge_69 hl16 (by decide) rfl (fun ls20 hl20 => ?_)
    refine lv_aload_n hx hb dX7_judge_71 rfl (lv_at hl20 2 rfl) ?_
    refine lv_iload hx hb dX7_judge_72 (lv_at hl20 0 rfl) ?_
    refine lv_bipush (v := 100) hx hb dX7_judge_74 (by decide) ?_
    refine lv_idiv hx hb dX7_judge_76 (by decide) ?_
    refine lv_iload hx hb dX7_judge_77 (lv_at hl20 0 rfl) ?_
    refine lv_bipush (v := 10) hx hb dX7_judge_79 (by decide) ?_
    refine lv_idiv hx hb dX7_judge_81 (by decide) ?_
    refine lv_bipush (v := 10) hx hb dX7_judge_82 (by decide) ?_
    refine lv_irem hx hb dX7_judge_84 (by decide) ?_
    refine k_top (y := kRem (((kRemL (p1 / 1000000) 1000).toInt32) / 10) 10) rfl ?_
    refine lv_iload hx hb dX7_judge_85 (lv_at hl20 0 rfl) ?_
    refine lv_bipush (v := 10) hx hb dX7_judge_87 (by decide) ?_
    refine lv_irem hx hb dX7_judge_89 (by decide) ?_
    refine k_top (y := kRem ((kRemL (p1 / 1000000) 1000).toInt32) 10) rfl ?_
    refine k_calli (kRunV (As := [.int (((kRemL (p1 / 1000000) 1000).toInt32) / 100), .int (kRem (((kRemL (p1 / 1000000) 1000).toInt32) / 10) 10), .int (kRem ((kRemL (p1 / 1000000) 1000).toInt32) 10)]) (rest := []) kx (c_X7_does l G (upd (upd (upd (upd Z 0 0) 18 (-9)) 20 0) 21 6) sd h0 q1 q2 q3 q4 q5 q6 q7 q8 q9 q10 q11 (s_X7_lay_t pg tr) (((kRemL (p1 / 1000000) 1000).toInt32) / 100) (kRem (((kRemL (p1 / 1000000) 1000).toInt32) / 10) 10) (kRem ((kRemL (p1 / 1000000) 1000).toInt32) 10)) q_914 q_911 q_36 q_913 q_25 nX7_does ⟨Nat.le_of_ble_eq_true rfl, Nat.le_of_ble_eq_true rfl⟩ hK hP18 hD19 (kCtx_places _ _ [0, 2] rfl rfl) 0 7 rfl rfl rfl rfl hl20.1 (Nat.le_of_ble_eq_true rfl) dX7_judge_90 ⟨Nat.zero_le _, Nat.zero_le _⟩) hP18 hD19 hS17 hA (kCtx_places _ _ [0, 2] rfl rfl) (fun _ => rfl) (fun r9 u H21 locs21 hw hP21 hD21 hS21 => ?_)
    obtain ⟨F10, F11⟩ := u
    obtain ⟨hr9, hF10, hF11⟩ := hw
    have hr9 : r_X7_does (s_X7_lay_t pg tr) (((kRemL (p1 / 1000000) 1000).toInt32) / 100) (kRem (((kRemL (p1 / 1000000) 1000).toInt32) / 10) 10) (kRem ((kRemL (p1 / 1000000) 1000).toInt32) 10) = r9 := (show r9 = r_X7_does (s_X7_lay_t pg tr) (((kRemL (p1 / 1000000) 1000).toInt32) / 100) (kRem (((kRemL (p1 / 1000000) 1000).toInt32) / 10) 10) (kRem ((kRemL (p1 / 1000000) 1000).toInt32) 10) from hr9).symm
    have hF10 : s_X7_does_Z (upd (upd (upd (upd Z 0 0) 18 (-9)) 20 0) 21 6) (s_X7_lay_t pg tr) (((kRemL (p1 / 1000000) 1000).toInt32) / 100) (kRem (((kRemL (p1 / 1000000) 1000).toInt32) / 10) 10) (kRem ((kRemL (p1 / 1000000) 1000).toInt32) 10) = F10 := (show F10 = s_X7_does_Z (upd (upd (upd (upd Z 0 0) 18 (-9)) 20 0) 21 6) (s_X7_lay_t pg tr) (((kRemL (p1 / 1000000) 1000).toInt32) / 100) (kRem (((kRemL (p1 / 1000000) 1000).toInt32) / 10) 10) (kRem ((kRemL (p1 / 1000000) 1000).toInt32) 10) from hF10).symm
    have hF11 : s_X7_does_tr (upd (upd (upd (upd Z 0 0) 18 (-9)) 20 0) 21 6) (s_X7_lay_t pg tr) (((kRemL (p1 / 1000000) 1000).toInt32) / 100) (kRem (((kRemL (p1 / 1000000) 1000).toInt32) / 10) 10) (kRem ((kRemL (p1 / 1000000) 1000).toInt32) 10) = F11 := (show F11 = s_X7_does_tr (upd (upd (upd (upd Z 0 0) 18 (-9)) 20 0) 21 6) (s_X7_lay_t pg tr) (((kRemL (p1 / 1000000) 1000).toInt32) / 100) (kRem (((kRemL (p1 / 1000000) 1000).toInt32) / 10) 10) (kRem ((kRemL (p1 / 1000000) 1000).toInt32) 10) from hF11).symm
    have hP22 : va_P G.1 vwCl ([(h0, .inr (7, cM F10 q1 q2 q3 q4 q5 q6 q7 q8 q9 q10 q11 sd)), (q4, .inl (G.2.1, 55, .inl pg)), (q5, .inl (G.2.1, 55, .inl F11))]) H21 := hP21
    have hD23 : va_D A ([(h0, .inr (7, cM F10 q1 q2 q3 q4 q5 q6 q7 q8 q9 q10 q11 sd)), (q4, .inl (G.2.1, 55, .inl pg)), (q5, .inl (G.2.1, 55, .inl F11))]) := hD21
    refine lv_if_ne (x := r9) (tgt := 99) hx hb dX7_judge_93 (by decide) (fun (c12 : ¬ (r9 = 0)) => ?_) (fun (c12 : r9 = 0) => ?_)
    · skip
      refine lv_iinc (v := 1) (lv' := [(4, .int 1), (5, .int ((kRemL (p1 / 1000000) 1000).toInt32)), (0, .ref h0), (1, .int 3), (2, .long p1)]) hx hb dX7_judge_99 hl20 (k := 1) rfl (by decide +kernel) (by decide) rfl (fun ls24 hl24 => ?_)
      refine lv_goto (tgt := 44) hx hb dX7_judge_102 (by decide) ?_
      refine lv_iload hx hb dX7_judge_44 (lv_at hl24 0 rfl) ?_
      refine lv_iload_n hx hb dX7_judge_46 rfl (lv_at hl24 3 rfl) ?_
      refine lv_icmp_ge (x := 1) (y := 3) (tgt := 105) hx hb dX7_judge_47 (by decide) (fun (c13 : 3 ≤ 1) => absurd c13 (by decide)) (fun (c13 : ¬ (3 ≤ 1)) => ?_)
      refine lv_lload_n hx hb dX7_judge_50 rfl (lv_at hl24 4 rfl) ?_
      refine lv_ldc2 (v := 1000) hx hb hown (ht _ q_907) dX7_judge_51 ?_
      refine lv_iload_n hx hb dX7_judge_54 rfl (lv_at hl24 3 rfl) ?_
      refine lv_iconst (v := 1) hx hb dX7_judge_55 (by decide) ?_
      refine lv_isub hx hb dX7_judge_56 ?_
      refine k_top (y := 2) (by decide +kernel) ?_
      refine lv_iload hx hb dX7_judge_57 (lv_at hl24 0 rfl) ?_
      refine lv_isub hx hb dX7_judge_59 ?_
      refine k_top (y := 1) (by decide +kernel) ?_
      refine k_calll (kRunS (As := [.long 1000, .int 1]) (rest := [.long p1]) kx (c_X7_longPower_1 l G ) q_910 q_908 q_36 q_909 nX7_longPower ⟨Nat.le_of_ble_eq_true rfl, Nat.le_of_ble_eq_true rfl⟩ hK hP22 hD23 (kCtx_nil _) rfl hl24.1 (Nat.le_of_ble_eq_true rfl) dX7_judge_60 ⟨Nat.zero_le _, Nat.zero_le _⟩) hP22 hD23 hS21 hA (kCtx_nil _) (fun _ => rfl) (fun r14 _ H25 locs25 hw hP25 hD25 hS25 => ?_)
      have hr14 : 1000 = r14 := (show r14 = 1000 from hw).symm
      subst hr14
      have hP26 : va_P G.1 vwCl ([(h0, .inr (7, cM F10 q1 q2 q3 q4 q5 q6 q7 q8 q9 q10 q11 sd)), (q4, .inl (G.2.1, 55, .inl pg)), (q5, .inl (G.2.1, 55, .inl F11))]) H25 := hP25
      have hD27 : va_D A ([(h0, .inr (7, cM F10 q1 q2 q3 q4 q5 q6 q7 q8 q9 q10 q11 sd)), (q4, .inl (G.2.1, 55, .inl pg)), (q5, .inl (G.2.1, 55, .inl F11))]) := hD25
      refine lv_ldiv hx hb dX7_judge_63 (by decide) ?_
      refine lv_ldc2 (v := 1000) hx hb hown (ht _ q_907) dX7_judge_64 ?_
      refine lv_lrem hx hb dX7_judge_67 (by decide) ?_
      refine k_topl (y := kRemL (p1 / 1000) 1000) rfl ?_
      refine lv_l2i (v := (kRemL (p1 / 1000) 1000).toInt32) hx hb dX7_judge_68 rfl ?_
      refine lv_istore (lv' := [(5, .int ((kRemL (p1 / 1000) 1000).toInt32)), (4, .int 1), (0, .ref h0), (1, .int 3), (2, .long p1)]) hx hb dX7_judge_69 hl24 (by decide) rfl (fun ls28 hl28 => ?_)
      refine lv_aload_n hx hb dX7_judge_71 rfl (lv_at hl28 2 rfl) ?_
      refine lv_iload hx hb dX7_judge_72 (lv_at hl28 0 rfl) ?_
      refine lv_bipush (v := 100) hx hb dX7_judge_74 (by decide) ?_
      refine lv_idiv hx hb dX7_judge_76 (by decide) ?_
      refine lv_iload hx hb dX7_judge_77 (lv_at hl28 0 rfl) ?_
      refine lv_bipush (v := 10) hx hb dX7_judge_79 (by decide) ?_
      refine lv_idiv hx hb dX7_judge_81 (by decide) ?_
      refine lv_bipush (v := 10) hx hb dX7_judge_82 (by decide) ?_
      refine lv_irem hx hb dX7_judge_84 (by decide) ?_
      refine k_top (y := kRem (((kRemL (p1 / 1000) 1000).toInt32) / 10) 10) rfl ?_
      refine lv_iload hx hb dX7_judge_85 (lv_at hl28 0 rfl) ?_
      refine lv_bipush (v := 10) hx hb dX7_judge_87 (by decide) ?_
      refine lv_irem hx hb dX7_judge_89 (by decide) ?_
      refine k_top (y := kRem ((kRemL (p1 / 1000) 1000).toInt32) 10) rfl ?_
      refine k_calli (kRunV (As := [.int (((kRemL (p1 / 1000) 1000).toInt32) / 100), .int (kRem (((kRemL (p1 / 1000) 1000).toInt32) / 10) 10), .int (kRem ((kRemL (p1 / 1000) 1000).toInt32) 10)]) (rest := []) kx (c_X7_does l G F10 sd h0 q1 q2 q3 q4 q5 q6 q7 q8 q9 q10 q11 F11 (((kRemL (p1 / 1000) 1000).toInt32) / 100) (kRem (((kRemL (p1 / 1000) 1000).toInt32) / 10) 10) (kRem ((kRemL (p1 / 1000) 1000).toInt32) 10)) q_914 q_911 q_36 q_913 q_25 nX7_does ⟨Nat.le_of_ble_eq_true rfl, Nat.le_of_ble_eq_true rfl⟩ hK hP26 hD27 (kCtx_places _ _ [0, 2] rfl rfl) 0 7 rfl rfl rfl rfl hl28.1 (Nat.le_of_ble_eq_true rfl) dX7_judge_90 ⟨Nat.zero_le _, Nat.zero_le _⟩) hP26 hD27 hS25 hA (kCtx_places _ _ [0, 2] rfl rfl) (fun _ => rfl) (fun r15 u H29 locs29 hw hP29 hD29 hS29 => ?_)
      obtain ⟨F16, F17⟩ := u
      obtain ⟨hr15, hF16, hF17⟩ := hw
      have hr15 : r_X7_does F11 (((kRemL (p1 / 1000) 1000).toInt32) / 100) (kRem (((kRemL (p1 / 1000) 1000).toInt32) / 10) 10) (kRem ((kRemL (p1 / 1000) 1000).toInt32) 10) = r15 := (show r15 = r_X7_does F11 (((kRemL (p1 / 1000) 1000).toInt32) / 100) (kRem (((kRemL (p1 / 1000) 1000).toInt32) / 10) 10) (kRem ((kRemL (p1 / 1000) 1000).toInt32) 10) from hr15).symm
      have hF16 : s_X7_does_Z F10 F11 (((kRemL (p1 / 1000) 1000).toInt32) / 100) (kRem (((kRemL (p1 / 1000) 1000).toInt32) / 10) 10) (kRem ((kRemL (p1 / 1000) 1000).toInt32) 10) = F16 := (show F16 = s_X7_does_Z F10 F11 (((kRemL (p1 / 1000) 1000).toInt32) / 100) (kRem (((kRemL (p1 / 1000) 1000).toInt32) / 10) 10) (kRem ((kRemL (p1 / 1000) 1000).toInt32) 10) from hF16).symm
      have hF17 : s_X7_does_tr F10 F11 (((kRemL (p1 / 1000) 1000).toInt32) / 100) (kRem (((kRemL (p1 / 1000) 1000).toInt32) / 10) 10) (kRem ((kRemL (p1 / 1000) 1000).toInt32) 10) = F17 := (show F17 = s_X7_does_tr F10 F11 (((kRemL (p1 / 1000) 1000).toInt32) / 100) (kRem (((kRemL (p1 / 1000) 1000).toInt32) / 10) 10) (kRem ((kRemL (p1 / 1000) 1000).toInt32) 10) from hF17).symm
      have hP30 : va_P G.1 vwCl ([(h0, .inr (7, cM F16 q1 q2 q3 q4 q5 q6 q7 q8 q9 q10 q11 sd)), (q4, .inl (G.2.1, 55, .inl pg)), (q5, .inl (G.2.1, 55, .inl F17))]) H29 := hP29
      have hD31 : va_D A ([(h0, .inr (7, cM F16 q1 q2 q3 q4 q5 q6 q7 q8 q9 q10 q11 sd)), (q4, .inl (G.2.1, 55, .inl pg)), (q5, .inl (G.2.1, 55, .inl F17))]) := hD29
      refine lv_if_ne (x := r15) (tgt := 99) hx hb dX7_judge_93 (by decide) (fun (c18 : ¬ (r15 = 0)) => ?_) (fun (c18 : r15 = 0) => ?_)
      · skip
        refine lv_iinc (v := 2) (lv' := [(4, .int 2), (5, .int ((kRemL (p1 / 1000) 1000).toInt32)), (0, .ref h0), (1, .int 3), (2, .long p1)]) hx hb dX7_judge_99 hl28 (k := 1) rfl (by decide +kernel) (by decide) rfl (fun ls32 hl32 => ?_)
        refine lv_goto (tgt := 44) hx hb dX7_judge_102 (by decide) ?_
        refine lv_iload hx hb dX7_judge_44 (lv_at hl32 0 rfl) ?_
        refine lv_iload_n hx hb dX7_judge_46 rfl (lv_at hl32 3 rfl) ?_
        refine lv_icmp_ge (x := 2) (y := 3) (tgt := 105) hx hb dX7_judge_47 (by decide) (fun (c19 : 3 ≤ 2) => absurd c19 (by decide)) (fun (c19 : ¬ (3 ≤ 2)) => ?_)
        refine lv_lload_n hx hb dX7_judge_50 rfl (lv_at hl32 4 rfl) ?_
        refine lv_ldc2 (v := 1000) hx hb hown (ht _ q_907) dX7_judge_51 ?_
        refine lv_iload_n hx hb dX7_judge_54 rfl (lv_at hl32 3 rfl) ?_
        refine lv_iconst (v := 1) hx hb dX7_judge_55 (by decide) ?_
        refine lv_isub hx hb dX7_judge_56 ?_
        refine k_top (y := 2) (by decide +kernel) ?_
        refine lv_iload hx hb dX7_judge_57 (lv_at hl32 0 rfl) ?_
        refine lv_isub hx hb dX7_judge_59 ?_
        refine k_top (y := 0) (by decide +kernel) ?_
        refine k_calll (kRunS (As := [.long 1000, .int 0]) (rest := [.long p1]) kx (c_X7_longPower_0 l G ) q_910 q_908 q_36 q_909 nX7_longPower ⟨Nat.le_of_ble_eq_true rfl, Nat.le_of_ble_eq_true rfl⟩ hK hP30 hD31 (kCtx_nil _) rfl hl32.1 (Nat.le_of_ble_eq_true rfl) dX7_judge_60 ⟨Nat.zero_le _, Nat.zero_le _⟩) hP30 hD31 hS29 hA (kCtx_nil _) (fun _ => rfl) (fun r20 _ H33 locs33 hw hP33 hD33 hS33 => ?_)
        have hr20 : 1 = r20 := (show r20 = 1 from hw).symm
        subst hr20
        have hP34 : va_P G.1 vwCl ([(h0, .inr (7, cM F16 q1 q2 q3 q4 q5 q6 q7 q8 q9 q10 q11 sd)), (q4, .inl (G.2.1, 55, .inl pg)), (q5, .inl (G.2.1, 55, .inl F17))]) H33 := hP33
        have hD35 : va_D A ([(h0, .inr (7, cM F16 q1 q2 q3 q4 q5 q6 q7 q8 q9 q10 q11 sd)), (q4, .inl (G.2.1, 55, .inl pg)), (q5, .inl (G.2.1, 55, .inl F17))]) := hD33
        refine lv_ldiv hx hb dX7_judge_63 (by decide) ?_
        refine lv_ldc2 (v := 1000) hx hb hown (ht _ q_907) dX7_judge_64 ?_
        refine lv_lrem hx hb dX7_judge_67 (by decide) ?_
        refine k_topl (y := kRemL (p1 / 1) 1000) rfl ?_
        refine lv_l2i (v := (kRemL (p1 / 1) 1000).toInt32) hx hb dX7_judge_68 rfl ?_
        refine lv_istore (lv' := [(5, .int ((kRemL (p1 / 1) 1000).toInt32)), (4, .int 2), (0, .ref h0), (1, .int 3), (2, .long p1)]) hx hb dX7_judge_69 hl32 (by decide) rfl (fun ls36 hl36 => ?_)
        refine lv_aload_n hx hb dX7_judge_71 rfl (lv_at hl36 2 rfl) ?_
        refine lv_iload hx hb dX7_judge_72 (lv_at hl36 0 rfl) ?_
        refine lv_bipush (v := 100) hx hb dX7_judge_74 (by decide) ?_
        refine lv_idiv hx hb dX7_judge_76 (by decide) ?_
        refine lv_iload hx hb dX7_judge_77 (lv_at hl36 0 rfl) ?_
        refine lv_bipush (v := 10) hx hb dX7_judge_79 (by decide) ?_
        refine lv_idiv hx hb dX7_judge_81 (by decide) ?_
        refine lv_bipush (v := 10) hx hb dX7_judge_82 (by decide) ?_
        refine lv_irem hx hb dX7_judge_84 (by decide) ?_
        refine k_top (y := kRem (((kRemL (p1 / 1) 1000).toInt32) / 10) 10) rfl ?_
        refine lv_iload hx hb dX7_judge_85 (lv_at hl36 0 rfl) ?_
        refine lv_bipush (v := 10) hx hb dX7_judge_87 (by decide) ?_
        refine lv_irem hx hb dX7_judge_89 (by decide) ?_
        refine k_top (y := kRem ((kRemL (p1 / 1) 1000).toInt32) 10) rfl ?_
        refine k_calli (kRunV (As := [.int (((kRemL (p1 / 1) 1000).toInt32) / 100), .int (kRem (((kRemL (p1 / 1) 1000).toInt32) / 10) 10), .int (kRem ((kRemL (p1 / 1) 1000).toInt32) 10)]) (rest := []) kx (c_X7_does l G F16 sd h0 q1 q2 q3 q4 q5 q6 q7 q8 q9 q10 q11 F17 (((kRemL (p1 / 1) 1000).toInt32) / 100) (kRem (((kRemL (p1 / 1) 1000).toInt32) / 10) 10) (kRem ((kRemL (p1 / 1) 1000).toInt32) 10)) q_914 q_911 q_36 q_913 q_25 nX7_does ⟨Nat.le_of_ble_eq_true rfl, Nat.le_of_ble_eq_true rfl⟩ hK hP34 hD35 (kCtx_places _ _ [0, 2] rfl rfl) 0 7 rfl rfl rfl rfl hl36.1 (Nat.le_of_ble_eq_true rfl) dX7_judge_90 ⟨Nat.zero_le _, Nat.zero_le _⟩) hP34 hD35 hS33 hA (kCtx_places _ _ [0, 2] rfl rfl) (fun _ => rfl) (fun r21 u H37 locs37 hw hP37 hD37 hS37 => ?_)
        obtain ⟨F22, F23⟩ := u
        obtain ⟨hr21, hF22, hF23⟩ := hw
        have hr21 : r_X7_does F17 (((kRemL (p1 / 1) 1000).toInt32) / 100) (kRem (((kRemL (p1 / 1) 1000).toInt32) / 10) 10) (kRem ((kRemL (p1 / 1) 1000).toInt32) 10) = r21 := (show r21 = r_X7_does F17 (((kRemL (p1 / 1) 1000).toInt32) / 100) (kRem (((kRemL (p1 / 1) 1000).toInt32) / 10) 10) (kRem ((kRemL (p1 / 1) 1000).toInt32) 10) from hr21).symm
        have hF22 : s_X7_does_Z F16 F17 (((kRemL (p1 / 1) 1000).toInt32) / 100) (kRem (((kRemL (p1 / 1) 1000).toInt32) / 10) 10) (kRem ((kRemL (p1 / 1) 1000).toInt32) 10) = F22 := (show F22 = s_X7_does_Z F16 F17 (((kRemL (p1 / 1) 1000).toInt32) / 100) (kRem (((kRemL (p1 / 1) 1000).toInt32) / 10) 10) (kRem ((kRemL (p1 / 1) 1000).toInt32) 10) from hF22).symm
        have hF23 : s_X7_does_tr F16 F17 (((kRemL (p1 / 1) 1000).toInt32) / 100) (kRem (((kRemL (p1 / 1) 1000).toInt32) / 10) 10) (kRem ((kRemL (p1 / 1) 1000).toInt32) 10) = F23 := (show F23 = s_X7_does_tr F16 F17 (((kRemL (p1 / 1) 1000).toInt32) / 100) (kRem (((kRemL (p1 / 1) 1000).toInt32) / 10) 10) (kRem ((kRemL (p1 / 1) 1000).toInt32) 10) from hF23).symm
        have hP38 : va_P G.1 vwCl ([(h0, .inr (7, cM F22 q1 q2 q3 q4 q5 q6 q7 q8 q9 q10 q11 sd)), (q4, .inl (G.2.1, 55, .inl pg)), (q5, .inl (G.2.1, 55, .inl F23))]) H37 := hP37
        have hD39 : va_D A ([(h0, .inr (7, cM F22 q1 q2 q3 q4 q5 q6 q7 q8 q9 q10 q11 sd)), (q4, .inl (G.2.1, 55, .inl pg)), (q5, .inl (G.2.1, 55, .inl F23))]) := hD37
        refine lv_if_ne (x := r21) (tgt := 99) hx hb dX7_judge_93 (by decide) (fun (c24 : ¬ (r21 = 0)) => ?_) (fun (c24 : r21 = 0) => ?_)
        · skip
          refine lv_iinc (v := 3) (lv' := [(4, .int 3), (5, .int ((kRemL (p1 / 1) 1000).toInt32)), (0, .ref h0), (1, .int 3), (2, .long p1)]) hx hb dX7_judge_99 hl36 (k := 1) rfl (by decide +kernel) (by decide) rfl (fun ls40 hl40 => ?_)
          refine lv_goto (tgt := 44) hx hb dX7_judge_102 (by decide) ?_
          refine lv_iload hx hb dX7_judge_44 (lv_at hl40 0 rfl) ?_
          refine lv_iload_n hx hb dX7_judge_46 rfl (lv_at hl40 3 rfl) ?_
          refine lv_icmp_ge (x := 3) (y := 3) (tgt := 105) hx hb dX7_judge_47 (by decide) (fun (c25 : 3 ≤ 3) => ?_) (fun (c25 : ¬ (3 ≤ 3)) => absurd (by decide) c25)
          refine lv_bipush (v := (-9)) hx hb dX7_judge_105 (by decide) ?_
          have er : r_X7_judge_3 Z pg tr p1 = (-9) := by rw [r_X7_judge_3]; (try rw [hr4]); (try rw [hF10]); (try rw [hF11]); (try rw [hr9]); (try rw [hF16]); (try rw [hF17]); (try rw [hr15]); (try rw [hF22]); (try rw [hF23]); (try rw [hr21]); rw [if_neg c5, if_neg c12, if_neg c18, if_neg c24]
          have e0 : s_X7_judge_3_Z Z pg tr p1 = F22 := by rw [s_X7_judge_3_Z]; (try rw [hr4]); (try rw [hF10]); (try rw [hF11]); (try rw [hr9]); (try rw [hF16]); (try rw [hF17]); (try rw [hr15]); (try rw [hF22]); (try rw [hF23]); (try rw [hr21]); rw [if_neg c5, if_neg c12, if_neg c18, if_neg c24]
          have e1 : s_X7_judge_3_tr Z pg tr p1 = F23 := by rw [s_X7_judge_3_tr]; (try rw [hr4]); (try rw [hF10]); (try rw [hF11]); (try rw [hr9]); (try rw [hF16]); (try rw [hF17]); (try rw [hr15]); (try rw [hF22]); (try rw [hF23]); (try rw [hr21]); rw [if_neg c5, if_neg c12, if_neg c18, if_neg c24]
          exact k_iret kx hK hP38 hD39 hS37 (u := (F22, F23)) rfl ⟨er.symm, e0.symm, e1.symm⟩ dX7_judge_107
        · skip
          refine lv_iload hx hb dX7_judge_96 (lv_at hl36 1 rfl) ?_
          have er : r_X7_judge_3 Z pg tr p1 = 2 := by rw [r_X7_judge_3]; (try rw [hr4]); (try rw [hF10]); (try rw [hF11]); (try rw [hr9]); (try rw [hF16]); (try rw [hF17]); (try rw [hr15]); (try rw [hF22]); (try rw [hF23]); (try rw [hr21]); rw [if_neg c5, if_neg c12, if_neg c18, if_pos c24]
          have e0 : s_X7_judge_3_Z Z pg tr p1 = F22 := by rw [s_X7_judge_3_Z]; (try rw [hr4]); (try rw [hF10]); (try rw [hF11]); (try rw [hr9]); (try rw [hF16]); (try rw [hF17]); (try rw [hr15]); (try rw [hF22]); (try rw [hF23]); (try rw [hr21]); rw [if_neg c5, if_neg c12, if_neg c18, if_pos c24]
          have e1 : s_X7_judge_3_tr Z pg tr p1 = F23 := by rw [s_X7_judge_3_tr]; (try rw [hr4]); (try rw [hF10]); (try rw [hF11]); (try rw [hr9]); (try rw [hF16]); (try rw [hF17]); (try rw [hr15]); (try rw [hF22]); (try rw [hF23]); (try rw [hr21]); rw [if_neg c5, if_neg c12, if_neg c18, if_pos c24]
          exact k_iret kx hK hP38 hD39 hS37 (u := (F22, F23)) rfl ⟨er.symm, e0.symm, e1.symm⟩ dX7_judge_98
      · skip
        refine lv_iload hx hb dX7_judge_96 (lv_at hl28 1 rfl) ?_
        have er : r_X7_judge_3 Z pg tr p1 = 1 := by rw [r_X7_judge_3]; (try rw [hr4]); (try rw [hF10]); (try rw [hF11]); (try rw [hr9]); (try rw [hF16]); (try rw [hF17]); (try rw [hr15]); rw [if_neg c5, if_neg c12, if_pos c18]
        have e0 : s_X7_judge_3_Z Z pg tr p1 = F16 := by rw [s_X7_judge_3_Z]; (try rw [hr4]); (try rw [hF10]); (try rw [hF11]); (try rw [hr9]); (try rw [hF16]); (try rw [hF17]); (try rw [hr15]); rw [if_neg c5, if_neg c12, if_pos c18]
        have e1 : s_X7_judge_3_tr Z pg tr p1 = F17 := by rw [s_X7_judge_3_tr]; (try rw [hr4]); (try rw [hF10]); (try rw [hF11]); (try rw [hr9]); (try rw [hF16]); (try rw [hF17]); (try rw [hr15]); rw [if_neg c5, if_neg c12, if_pos c18]
        exact k_iret kx hK hP30 hD31 hS29 (u := (F16, F17)) rfl ⟨er.symm, e0.symm, e1.symm⟩ dX7_judge_98
    · skip
      refine lv_iload hx hb dX7_judge_96 (lv_at hl20 1 rfl) ?_
      have er : r_X7_judge_3 Z pg tr p1 = 0 := by rw [r_X7_judge_3]; (try rw [hr4]); (try rw [hF10]); (try rw [hF11]); (try rw [hr9]); rw [if_neg c5, if_pos c12]
      have e0 : s_X7_judge_3_Z Z pg tr p1 = F10 := by rw [s_X7_judge_3_Z]; (try rw [hr4]); (try rw [hF10]); (try rw [hF11]); (try rw [hr9]); rw [if_neg c5, if_pos c12]
      have e1 : s_X7_judge_3_tr Z pg tr p1 = F11 := by rw [s_X7_judge_3_tr]; (try rw [hr4]); (try rw [hF10]); (try rw [hF11]); (try rw [hr9]); rw [if_neg c5, if_pos c12]
      exact k_iret kx hK hP22 hD23 hS21 (u := (F10, F11)) rfl ⟨er.symm, e0.symm, e1.symm⟩ dX7_judge_98
  · skip
    refine lv_bipush (v := (-2)) hx hb dX7_judge_34 (by decide) ?_
    have er : r_X7_judge_3 Z pg tr p1 = (-2) := by rw [r_X7_judge_3]; (try rw [hr4]); rw [if_pos c5]
    have e0 : s_X7_judge_3_Z Z pg tr p1 = upd Z 0 0 := by rw [s_X7_judge_3_Z]; (try rw [hr4]); rw [if_pos c5]
    have e1 : s_X7_judge_3_tr Z pg tr p1 = tr := by rw [s_X7_judge_3_tr]; (try rw [hr4]); rw [if_pos c5]
    exact k_iret kx hK hP11 hD12 hS10 (u := (upd Z 0 0, tr)) rfl ⟨er.symm, e0.symm, e1.symm⟩ dX7_judge_36

def r_X7_judge_4 (Z : Nat → Int32) (pg : Nat → Int32) (tr : Nat → Int32) (p1 : Int64) : Int32 := if (r_X7_in p1 0 999999999999) = 0 then (-2) else if (r_X7_does (s_X7_lay_t pg tr) (((kRemL (p1 / 1000000000) 1000).toInt32) / 100) (kRem (((kRemL (p1 / 1000000000) 1000).toInt32) / 10) 10) (kRem ((kRemL (p1 / 1000000000) 1000).toInt32) 10)) = 0 then 0 else if (r_X7_does (s_X7_does_tr (upd (upd (upd (upd Z 0 0) 18 (-9)) 20 0) 21 6) (s_X7_lay_t pg tr) (((kRemL (p1 / 1000000000) 1000).toInt32) / 100) (kRem (((kRemL (p1 / 1000000000) 1000).toInt32) / 10) 10) (kRem ((kRemL (p1 / 1000000000) 1000).toInt32) 10)) (((kRemL (p1 / 1000000) 1000).toInt32) / 100) (kRem (((kRemL (p1 / 1000000) 1000).toInt32) / 10) 10) (kRem ((kRemL (p1 / 1000000) 1000).toInt32) 10)) = 0 then 1 else if (r_X7_does (s_X7_does_tr (s_X7_does_Z (upd (upd (upd (upd Z 0 0) 18 (-9)) 20 0) 21 6) (s_X7_lay_t pg tr) (((kRemL (p1 / 1000000000) 1000).toInt32) / 100) (kRem (((kRemL (p1 / 1000000000) 1000).toInt32) / 10) 10) (kRem ((kRemL (p1 / 1000000000) 1000).toInt32) 10)) (s_X7_does_tr (upd (upd (upd (upd Z 0 0) 18 (-9)) 20 0) 21 6) (s_X7_lay_t pg tr) (((kRemL (p1 / 1000000000) 1000).toInt32) / 100) (kRem (((kRemL (p1 / 1000000000) 1000).toInt32) / 10) 10) (kRem ((kRemL (p1 / 1000000000) 1000).toInt32) 10)) (((kRemL (p1 / 1000000) 1000).toInt32) / 100) (kRem (((kRemL (p1 / 1000000) 1000).toInt32) / 10) 10) (kRem ((kRemL (p1 / 1000000) 1000).toInt32) 10)) (((kRemL (p1 / 1000) 1000).toInt32) / 100) (kRem (((kRemL (p1 / 1000) 1000).toInt32) / 10) 10) (kRem ((kRemL (p1 / 1000) 1000).toInt32) 10)) = 0 then 2 else if (r_X7_does (s_X7_does_tr (s_X7_does_Z (s_X7_does_Z (upd (upd (upd (upd Z 0 0) 18 (-9)) 20 0) 21 6) (s_X7_lay_t pg tr) (((kRemL (p1 / 1000000000) 1000).toInt32) / 100) (kRem (((kRemL (p1 / 1000000000) 1000).toInt32) / 10) 10) (kRem ((kRemL (p1 / 1000000000) 1000).toInt32) 10)) (s_X7_does_tr (upd (upd (upd (upd Z 0 0) 18 (-9)) 20 0) 21 6) (s_X7_lay_t pg tr) (((kRemL (p1 / 1000000000) 1000).toInt32) / 100) (kRem (((kRemL (p1 / 1000000000) 1000).toInt32) / 10) 10) (kRem ((kRemL (p1 / 1000000000) 1000).toInt32) 10)) (((kRemL (p1 / 1000000) 1000).toInt32) / 100) (kRem (((kRemL (p1 / 1000000) 1000).toInt32) / 10) 10) (kRem ((kRemL (p1 / 1000000) 1000).toInt32) 10)) (s_X7_does_tr (s_X7_does_Z (upd (upd (upd (upd Z 0 0) 18 (-9)) 20 0) 21 6) (s_X7_lay_t pg tr) (((kRemL (p1 / 1000000000) 1000).toInt32) / 100) (kRem (((kRemL (p1 / 1000000000) 1000).toInt32) / 10) 10) (kRem ((kRemL (p1 / 1000000000) 1000).toInt32) 10)) (s_X7_does_tr (upd (upd (upd (upd Z 0 0) 18 (-9)) 20 0) 21 6) (s_X7_lay_t pg tr) (((kRemL (p1 / 1000000000) 1000).toInt32) / 100) (kRem (((kRemL (p1 / 1000000000) 1000).toInt32) / 10) 10) (kRem ((kRemL (p1 / 1000000000) 1000).toInt32) 10)) (((kRemL (p1 / 1000000) 1000).toInt32) / 100) (kRem (((kRemL (p1 / 1000000) 1000).toInt32) / 10) 10) (kRem ((kRemL (p1 / 1000000) 1000).toInt32) 10)) (((kRemL (p1 / 1000) 1000).toInt32) / 100) (kRem (((kRemL (p1 / 1000) 1000).toInt32) / 10) 10) (kRem ((kRemL (p1 / 1000) 1000).toInt32) 10)) (((kRemL (p1 / 1) 1000).toInt32) / 100) (kRem (((kRemL (p1 / 1) 1000).toInt32) / 10) 10) (kRem ((kRemL (p1 / 1) 1000).toInt32) 10)) = 0 then 3 else (-9)
def s_X7_judge_4_Z (Z : Nat → Int32) (pg : Nat → Int32) (tr : Nat → Int32) (p1 : Int64) : Nat → Int32 := if (r_X7_in p1 0 999999999999) = 0 then (upd Z 0 0) else if (r_X7_does (s_X7_lay_t pg tr) (((kRemL (p1 / 1000000000) 1000).toInt32) / 100) (kRem (((kRemL (p1 / 1000000000) 1000).toInt32) / 10) 10) (kRem ((kRemL (p1 / 1000000000) 1000).toInt32) 10)) = 0 then (s_X7_does_Z (upd (upd (upd (upd Z 0 0) 18 (-9)) 20 0) 21 6) (s_X7_lay_t pg tr) (((kRemL (p1 / 1000000000) 1000).toInt32) / 100) (kRem (((kRemL (p1 / 1000000000) 1000).toInt32) / 10) 10) (kRem ((kRemL (p1 / 1000000000) 1000).toInt32) 10)) else if (r_X7_does (s_X7_does_tr (upd (upd (upd (upd Z 0 0) 18 (-9)) 20 0) 21 6) (s_X7_lay_t pg tr) (((kRemL (p1 / 1000000000) 1000).toInt32) / 100) (kRem (((kRemL (p1 / 1000000000) 1000).toInt32) / 10) 10) (kRem ((kRemL (p1 / 1000000000) 1000).toInt32) 10)) (((kRemL (p1 / 1000000) 1000).toInt32) / 100) (kRem (((kRemL (p1 / 1000000) 1000).toInt32) / 10) 10) (kRem ((kRemL (p1 / 1000000) 1000).toInt32) 10)) = 0 then (s_X7_does_Z (s_X7_does_Z (upd (upd (upd (upd Z 0 0) 18 (-9)) 20 0) 21 6) (s_X7_lay_t pg tr) (((kRemL (p1 / 1000000000) 1000).toInt32) / 100) (kRem (((kRemL (p1 / 1000000000) 1000).toInt32) / 10) 10) (kRem ((kRemL (p1 / 1000000000) 1000).toInt32) 10)) (s_X7_does_tr (upd (upd (upd (upd Z 0 0) 18 (-9)) 20 0) 21 6) (s_X7_lay_t pg tr) (((kRemL (p1 / 1000000000) 1000).toInt32) / 100) (kRem (((kRemL (p1 / 1000000000) 1000).toInt32) / 10) 10) (kRem ((kRemL (p1 / 1000000000) 1000).toInt32) 10)) (((kRemL (p1 / 1000000) 1000).toInt32) / 100) (kRem (((kRemL (p1 / 1000000) 1000).toInt32) / 10) 10) (kRem ((kRemL (p1 / 1000000) 1000).toInt32) 10)) else if (r_X7_does (s_X7_does_tr (s_X7_does_Z (upd (upd (upd (upd Z 0 0) 18 (-9)) 20 0) 21 6) (s_X7_lay_t pg tr) (((kRemL (p1 / 1000000000) 1000).toInt32) / 100) (kRem (((kRemL (p1 / 1000000000) 1000).toInt32) / 10) 10) (kRem ((kRemL (p1 / 1000000000) 1000).toInt32) 10)) (s_X7_does_tr (upd (upd (upd (upd Z 0 0) 18 (-9)) 20 0) 21 6) (s_X7_lay_t pg tr) (((kRemL (p1 / 1000000000) 1000).toInt32) / 100) (kRem (((kRemL (p1 / 1000000000) 1000).toInt32) / 10) 10) (kRem ((kRemL (p1 / 1000000000) 1000).toInt32) 10)) (((kRemL (p1 / 1000000) 1000).toInt32) / 100) (kRem (((kRemL (p1 / 1000000) 1000).toInt32) / 10) 10) (kRem ((kRemL (p1 / 1000000) 1000).toInt32) 10)) (((kRemL (p1 / 1000) 1000).toInt32) / 100) (kRem (((kRemL (p1 / 1000) 1000).toInt32) / 10) 10) (kRem ((kRemL (p1 / 1000) 1000).toInt32) 10)) = 0 then (s_X7_does_Z (s_X7_does_Z (s_X7_does_Z (upd (upd (upd (upd Z 0 0) 18 (-9)) 20 0) 21 6) (s_X7_lay_t pg tr) (((kRemL (p1 / 1000000000) 1000).toInt32) / 100) (kRem (((kRemL (p1 / 1000000000) 1000).toInt32) / 10) 10) (kRem ((kRemL (p1 / 1000000000) 1000).toInt32) 10)) (s_X7_does_tr (upd (upd (upd (upd Z 0 0) 18 (-9)) 20 0) 21 6) (s_X7_lay_t pg tr) (((kRemL (p1 / 1000000000) 1000).toInt32) / 100) (kRem (((kRemL (p1 / 1000000000) 1000).toInt32) / 10) 10) (kRem ((kRemL (p1 / 1000000000) 1000).toInt32) 10)) (((kRemL (p1 / 1000000) 1000).toInt32) / 100) (kRem (((kRemL (p1 / 1000000) 1000).toInt32) / 10) 10) (kRem ((kRemL (p1 / 1000000) 1000).toInt32) 10)) (s_X7_does_tr (s_X7_does_Z (upd (upd (upd (upd Z 0 0) 18 (-9)) 20 0) 21 6) (s_X7_lay_t pg tr) (((kRemL (p1 / 1000000000) 1000).toInt32) / 100) (kRem (((kRemL (p1 / 1000000000) 1000).toInt32) / 10) 10) (kRem ((kRemL (p1 / 1000000000) 1000).toInt32) 10)) (s_X7_does_tr (upd (upd (upd (upd Z 0 0) 18 (-9)) 20 0) 21 6) (s_X7_lay_t pg tr) (((kRemL (p1 / 1000000000) 1000).toInt32) / 100) (kRem (((kRemL (p1 / 1000000000) 1000).toInt32) / 10) 10) (kRem ((kRemL (p1 / 1000000000) 1000).toInt32) 10)) (((kRemL (p1 / 1000000) 1000).toInt32) / 100) (kRem (((kRemL (p1 / 1000000) 1000).toInt32) / 10) 10) (kRem ((kRemL (p1 / 1000000) 1000).toInt32) 10)) (((kRemL (p1 / 1000) 1000).toInt32) / 100) (kRem (((kRemL (p1 / 1000) 1000).toInt32) / 10) 10) (kRem ((kRemL (p1 / 1000) 1000).toInt32) 10)) else if (r_X7_does (s_X7_does_tr (s_X7_does_Z (s_X7_does_Z (upd (upd (upd (upd Z 0 0) 18 (-9)) 20 0) 21 6) (s_X7_lay_t pg tr) (((kRemL (p1 / 1000000000) 1000).toInt32) / 100) (kRem (((kRemL (p1 / 1000000000) 1000).toInt32) / 10) 10) (kRem ((kRemL (p1 / 1000000000) 1000).toInt32) 10)) (s_X7_does_tr (upd (upd (upd (upd Z 0 0) 18 (-9)) 20 0) 21 6) (s_X7_lay_t pg tr) (((kRemL (p1 / 1000000000) 1000).toInt32) / 100) (kRem (((kRemL (p1 / 1000000000) 1000).toInt32) / 10) 10) (kRem ((kRemL (p1 / 1000000000) 1000).toInt32) 10)) (((kRemL (p1 / 1000000) 1000).toInt32) / 100) (kRem (((kRemL (p1 / 1000000) 1000).toInt32) / 10) 10) (kRem ((kRemL (p1 / 1000000) 1000).toInt32) 10)) (s_X7_does_tr (s_X7_does_Z (upd (upd (upd (upd Z 0 0) 18 (-9)) 20 0) 21 6) (s_X7_lay_t pg tr) (((kRemL (p1 / 1000000000) 1000).toInt32) / 100) (kRem (((kRemL (p1 / 1000000000) 1000).toInt32) / 10) 10) (kRem ((kRemL (p1 / 1000000000) 1000).toInt32) 10)) (s_X7_does_tr (upd (upd (upd (upd Z 0 0) 18 (-9)) 20 0) 21 6) (s_X7_lay_t pg tr) (((kRemL (p1 / 1000000000) 1000).toInt32) / 100) (kRem (((kRemL (p1 / 1000000000) 1000).toInt32) / 10) 10) (kRem ((kRemL (p1 / 1000000000) 1000).toInt32) 10)) (((kRemL (p1 / 1000000) 1000).toInt32) / 100) (kRem (((kRemL (p1 / 1000000) 1000).toInt32) / 10) 10) (kRem ((kRemL (p1 / 1000000) 1000).toInt32) 10)) (((kRemL (p1 / 1000) 1000).toInt32) / 100) (kRem (((kRemL (p1 / 1000) 1000).toInt32) / 10) 10) (kRem ((kRemL (p1 / 1000) 1000).toInt32) 10)) (((kRemL (p1 / 1) 1000).toInt32) / 100) (kRem (((kRemL (p1 / 1) 1000).toInt32) / 10) 10) (kRem ((kRemL (p1 / 1) 1000).toInt32) 10)) = 0 then (s_X7_does_Z (s_X7_does_Z (s_X7_does_Z (s_X7_does_Z (upd (upd (upd (upd Z 0 0) 18 (-9)) 20 0) 21 6) (s_X7_lay_t pg tr) (((kRemL (p1 / 1000000000) 1000).toInt32) / 100) (kRem (((kRemL (p1 / 1000000000) 1000).toInt32) / 10) 10) (kRem ((kRemL (p1 / 1000000000) 1000).toInt32) 10)) (s_X7_does_tr (upd (upd (upd (upd Z 0 0) 18 (-9)) 20 0) 21 6) (s_X7_lay_t pg tr) (((kRemL (p1 / 1000000000) 1000).toInt32) / 100) (kRem (((kRemL (p1 / 1000000000) 1000).toInt32) / 10) 10) (kRem ((kRemL (p1 / 1000000000) 1000).toInt32) 10)) (((kRemL (p1 / 1000000) 1000).toInt32) / 100) (kRem (((kRemL (p1 / 1000000) 1000).toInt32) / 10) 10) (kRem ((kRemL (p1 / 1000000) 1000).toInt32) 10)) (s_X7_does_tr (s_X7_does_Z (upd (upd (upd (upd Z 0 0) 18 (-9)) 20 0) 21 6) (s_X7_lay_t pg tr) (((kRemL (p1 / 1000000000) 1000).toInt32) / 100) (kRem (((kRemL (p1 / 1000000000) 1000).toInt32) / 10) 10) (kRem ((kRemL (p1 / 1000000000) 1000).toInt32) 10)) (s_X7_does_tr (upd (upd (upd (upd Z 0 0) 18 (-9)) 20 0) 21 6) (s_X7_lay_t pg tr) (((kRemL (p1 / 1000000000) 1000).toInt32) / 100) (kRem (((kRemL (p1 / 1000000000) 1000).toInt32) / 10) 10) (kRem ((kRemL (p1 / 1000000000) 1000).toInt32) 10)) (((kRemL (p1 / 1000000) 1000).toInt32) / 100) (kRem (((kRemL (p1 / 1000000) 1000).toInt32) / 10) 10) (kRem ((kRemL (p1 / 1000000) 1000).toInt32) 10)) (((kRemL (p1 / 1000) 1000).toInt32) / 100) (kRem (((kRemL (p1 / 1000) 1000).toInt32) / 10) 10) (kRem ((kRemL (p1 / 1000) 1000).toInt32) 10)) (s_X7_does_tr (s_X7_does_Z (s_X7_does_Z (upd (upd (upd (upd Z 0 0) 18 (-9)) 20 0) 21 6) (s_X7_lay_t pg tr) (((kRemL (p1 / 1000000000) 1000).toInt32) / 100) (kRem (((kRemL (p1 / 1000000000) 1000).toInt32) / 10) 10) (kRem ((kRemL (p1 / 1000000000) 1000).toInt32) 10)) (s_X7_does_tr (upd (upd (upd (upd Z 0 0) 18 (-9)) 20 0) 21 6) (s_X7_lay_t pg tr) (((kRemL (p1 / 1000000000) 1000).toInt32) / 100) (kRem (((kRemL (p1 / 1000000000) 1000).toInt32) / 10) 10) (kRem ((kRemL (p1 / 1000000000) 1000).toInt32) 10)) (((kRemL (p1 / 1000000) 1000).toInt32) / 100) (kRem (((kRemL (p1 / 1000000) 1000).toInt32) / 10) 10) (kRem ((kRemL (p1 / 1000000) 1000).toInt32) 10)) (s_X7_does_tr (s_X7_does_Z (upd (upd (upd (upd Z 0 0) 18 (-9)) 20 0) 21 6) (s_X7_lay_t pg tr) (((kRemL (p1 / 1000000000) 1000).toInt32) / 100) (kRem (((kRemL (p1 / 1000000000) 1000).toInt32) / 10) 10) (kRem ((kRemL (p1 / 1000000000) 1000).toInt32) 10)) (s_X7_does_tr (upd (upd (upd (upd Z 0 0) 18 (-9)) 20 0) 21 6) (s_X7_lay_t pg tr) (((kRemL (p1 / 1000000000) 1000).toInt32) / 100) (kRem (((kRemL (p1 / 1000000000) 1000).toInt32) / 10) 10) (kRem ((kRemL (p1 / 1000000000) 1000).toInt32) 10)) (((kRemL (p1 / 1000000) 1000).toInt32) / 100) (kRem (((kRemL (p1 / 1000000) 1000).toInt32) / 10) 10) (kRem ((kRemL (p1 / 1000000) 1000).toInt32) 10)) (((kRemL (p1 / 1000) 1000).toInt32) / 100) (kRem (((kRemL (p1 / 1000) 1000).toInt32) / 10) 10) (kRem ((kRemL (p1 / 1000) 1000).toInt32) 10)) (((kRemL (p1 / 1) 1000).toInt32) / 100) (kRem (((kRemL (p1 / 1) 1000).toInt32) / 10) 10) (kRem ((kRemL (p1 / 1) 1000).toInt32) 10)) else s_X7_does_Z (s_X7_does_Z (s_X7_does_Z (s_X7_does_Z (upd (upd (upd (upd Z 0 0) 18 (-9)) 20 0) 21 6) (s_X7_lay_t pg tr) (((kRemL (p1 / 1000000000) 1000).toInt32) / 100) (kRem (((kRemL (p1 / 1000000000) 1000).toInt32) / 10) 10) (kRem ((kRemL (p1 / 1000000000) 1000).toInt32) 10)) (s_X7_does_tr (upd (upd (upd (upd Z 0 0) 18 (-9)) 20 0) 21 6) (s_X7_lay_t pg tr) (((kRemL (p1 / 1000000000) 1000).toInt32) / 100) (kRem (((kRemL (p1 / 1000000000) 1000).toInt32) / 10) 10) (kRem ((kRemL (p1 / 1000000000) 1000).toInt32) 10)) (((kRemL (p1 / 1000000) 1000).toInt32) / 100) (kRem (((kRemL (p1 / 1000000) 1000).toInt32) / 10) 10) (kRem ((kRemL (p1 / 1000000) 1000).toInt32) 10)) (s_X7_does_tr (s_X7_does_Z (upd (upd (upd (upd Z 0 0) 18 (-9)) 20 0) 21 6) (s_X7_lay_t pg tr) (((kRemL (p1 / 1000000000) 1000).toInt32) / 100) (kRem (((kRemL (p1 / 1000000000) 1000).toInt32) / 10) 10) (kRem ((kRemL (p1 / 1000000000) 1000).toInt32) 10)) (s_X7_does_tr (upd (upd (upd (upd Z 0 0) 18 (-9)) 20 0) 21 6) (s_X7_lay_t pg tr) (((kRemL (p1 / 1000000000) 1000).toInt32) / 100) (kRem (((kRemL (p1 / 1000000000) 1000).toInt32) / 10) 10) (kRem ((kRemL (p1 / 1000000000) 1000).toInt32) 10)) (((kRemL (p1 / 1000000) 1000).toInt32) / 100) (kRem (((kRemL (p1 / 1000000) 1000).toInt32) / 10) 10) (kRem ((kRemL (p1 / 1000000) 1000).toInt32) 10)) (((kRemL (p1 / 1000) 1000).toInt32) / 100) (kRem (((kRemL (p1 / 1000) 1000).toInt32) / 10) 10) (kRem ((kRemL (p1 / 1000) 1000).toInt32) 10)) (s_X7_does_tr (s_X7_does_Z (s_X7_does_Z (upd (upd (upd (upd Z 0 0) 18 (-9)) 20 0) 21 6) (s_X7_lay_t pg tr) (((kRemL (p1 / 1000000000) 1000).toInt32) / 100) (kRem (((kRemL (p1 / 1000000000) 1000).toInt32) / 10) 10) (kRem ((kRemL (p1 / 1000000000) 1000).toInt32) 10)) (s_X7_does_tr (upd (upd (upd (upd Z 0 0) 18 (-9)) 20 0) 21 6) (s_X7_lay_t pg tr) (((kRemL (p1 / 1000000000) 1000).toInt32) / 100) (kRem (((kRemL (p1 / 1000000000) 1000).toInt32) / 10) 10) (kRem ((kRemL (p1 / 1000000000) 1000).toInt32) 10)) (((kRemL (p1 / 1000000) 1000).toInt32) / 100) (kRem (((kRemL (p1 / 1000000) 1000).toInt32) / 10) 10) (kRem ((kRemL (p1 / 1000000) 1000).toInt32) 10)) (s_X7_does_tr (s_X7_does_Z (upd (upd (upd (upd Z 0 0) 18 (-9)) 20 0) 21 6) (s_X7_lay_t pg tr) (((kRemL (p1 / 1000000000) 1000).toInt32) / 100) (kRem (((kRemL (p1 / 1000000000) 1000).toInt32) / 10) 10) (kRem ((kRemL (p1 / 1000000000) 1000).toInt32) 10)) (s_X7_does_tr (upd (upd (upd (upd Z 0 0) 18 (-9)) 20 0) 21 6) (s_X7_lay_t pg tr) (((kRemL (p1 / 1000000000) 1000).toInt32) / 100) (kRem (((kRemL (p1 / 1000000000) 1000).toInt32) / 10) 10) (kRem ((kRemL (p1 / 1000000000) 1000).toInt32) 10)) (((kRemL (p1 / 1000000) 1000).toInt32) / 100) (kRem (((kRemL (p1 / 1000000) 1000).toInt32) / 10) 10) (kRem ((kRemL (p1 / 1000000) 1000).toInt32) 10)) (((kRemL (p1 / 1000) 1000).toInt32) / 100) (kRem (((kRemL (p1 / 1000) 1000).toInt32) / 10) 10) (kRem ((kRemL (p1 / 1000) 1000).toInt32) 10)) (((kRemL (p1 / 1) 1000).toInt32) / 100) (kRem (((kRemL (p1 / 1) 1000).toInt32) / 10) 10) (kRem ((kRemL (p1 / 1) 1000).toInt32) 10)
def s_X7_judge_4_tr (Z : Nat → Int32) (pg : Nat → Int32) (tr : Nat → Int32) (p1 : Int64) : Nat → Int32 := if (r_X7_in p1 0 999999999999) = 0 then tr else if (r_X7_does (s_X7_lay_t pg tr) (((kRemL (p1 / 1000000000) 1000).toInt32) / 100) (kRem (((kRemL (p1 / 1000000000) 1000).toInt32) / 10) 10) (kRem ((kRemL (p1 / 1000000000) 1000).toInt32) 10)) = 0 then (s_X7_does_tr (upd (upd (upd (upd Z 0 0) 18 (-9)) 20 0) 21 6) (s_X7_lay_t pg tr) (((kRemL (p1 / 1000000000) 1000).toInt32) / 100) (kRem (((kRemL (p1 / 1000000000) 1000).toInt32) / 10) 10) (kRem ((kRemL (p1 / 1000000000) 1000).toInt32) 10)) else if (r_X7_does (s_X7_does_tr (upd (upd (upd (upd Z 0 0) 18 (-9)) 20 0) 21 6) (s_X7_lay_t pg tr) (((kRemL (p1 / 1000000000) 1000).toInt32) / 100) (kRem (((kRemL (p1 / 1000000000) 1000).toInt32) / 10) 10) (kRem ((kRemL (p1 / 1000000000) 1000).toInt32) 10)) (((kRemL (p1 / 1000000) 1000).toInt32) / 100) (kRem (((kRemL (p1 / 1000000) 1000).toInt32) / 10) 10) (kRem ((kRemL (p1 / 1000000) 1000).toInt32) 10)) = 0 then (s_X7_does_tr (s_X7_does_Z (upd (upd (upd (upd Z 0 0) 18 (-9)) 20 0) 21 6) (s_X7_lay_t pg tr) (((kRemL (p1 / 1000000000) 1000).toInt32) / 100) (kRem (((kRemL (p1 / 1000000000) 1000).toInt32) / 10) 10) (kRem ((kRemL (p1 / 1000000000) 1000).toInt32) 10)) (s_X7_does_tr (upd (upd (upd (upd Z 0 0) 18 (-9)) 20 0) 21 6) (s_X7_lay_t pg tr) (((kRemL (p1 / 1000000000) 1000).toInt32) / 100) (kRem (((kRemL (p1 / 1000000000) 1000).toInt32) / 10) 10) (kRem ((kRemL (p1 / 1000000000) 1000).toInt32) 10)) (((kRemL (p1 / 1000000) 1000).toInt32) / 100) (kRem (((kRemL (p1 / 1000000) 1000).toInt32) / 10) 10) (kRem ((kRemL (p1 / 1000000) 1000).toInt32) 10)) else if (r_X7_does (s_X7_does_tr (s_X7_does_Z (upd (upd (upd (upd Z 0 0) 18 (-9)) 20 0) 21 6) (s_X7_lay_t pg tr) (((kRemL (p1 / 1000000000) 1000).toInt32) / 100) (kRem (((kRemL (p1 / 1000000000) 1000).toInt32) / 10) 10) (kRem ((kRemL (p1 / 1000000000) 1000).toInt32) 10)) (s_X7_does_tr (upd (upd (upd (upd Z 0 0) 18 (-9)) 20 0) 21 6) (s_X7_lay_t pg tr) (((kRemL (p1 / 1000000000) 1000).toInt32) / 100) (kRem (((kRemL (p1 / 1000000000) 1000).toInt32) / 10) 10) (kRem ((kRemL (p1 / 1000000000) 1000).toInt32) 10)) (((kRemL (p1 / 1000000) 1000).toInt32) / 100) (kRem (((kRemL (p1 / 1000000) 1000).toInt32) / 10) 10) (kRem ((kRemL (p1 / 1000000) 1000).toInt32) 10)) (((kRemL (p1 / 1000) 1000).toInt32) / 100) (kRem (((kRemL (p1 / 1000) 1000).toInt32) / 10) 10) (kRem ((kRemL (p1 / 1000) 1000).toInt32) 10)) = 0 then (s_X7_does_tr (s_X7_does_Z (s_X7_does_Z (upd (upd (upd (upd Z 0 0) 18 (-9)) 20 0) 21 6) (s_X7_lay_t pg tr) (((kRemL (p1 / 1000000000) 1000).toInt32) / 100) (kRem (((kRemL (p1 / 1000000000) 1000).toInt32) / 10) 10) (kRem ((kRemL (p1 / 1000000000) 1000).toInt32) 10)) (s_X7_does_tr (upd (upd (upd (upd Z 0 0) 18 (-9)) 20 0) 21 6) (s_X7_lay_t pg tr) (((kRemL (p1 / 1000000000) 1000).toInt32) / 100) (kRem (((kRemL (p1 / 1000000000) 1000).toInt32) / 10) 10) (kRem ((kRemL (p1 / 1000000000) 1000).toInt32) 10)) (((kRemL (p1 / 1000000) 1000).toInt32) / 100) (kRem (((kRemL (p1 / 1000000) 1000).toInt32) / 10) 10) (kRem ((kRemL (p1 / 1000000) 1000).toInt32) 10)) (s_X7_does_tr (s_X7_does_Z (upd (upd (upd (upd Z 0 0) 18 (-9)) 20 0) 21 6) (s_X7_lay_t pg tr) (((kRemL (p1 / 1000000000) 1000).toInt32) / 100) (kRem (((kRemL (p1 / 1000000000) 1000).toInt32) / 10) 10) (kRem ((kRemL (p1 / 1000000000) 1000).toInt32) 10)) (s_X7_does_tr (upd (upd (upd (upd Z 0 0) 18 (-9)) 20 0) 21 6) (s_X7_lay_t pg tr) (((kRemL (p1 / 1000000000) 1000).toInt32) / 100) (kRem (((kRemL (p1 / 1000000000) 1000).toInt32) / 10) 10) (kRem ((kRemL (p1 / 1000000000) 1000).toInt32) 10)) (((kRemL (p1 / 1000000) 1000).toInt32) / 100) (kRem (((kRemL (p1 / 1000000) 1000).toInt32) / 10) 10) (kRem ((kRemL (p1 / 1000000) 1000).toInt32) 10)) (((kRemL (p1 / 1000) 1000).toInt32) / 100) (kRem (((kRemL (p1 / 1000) 1000).toInt32) / 10) 10) (kRem ((kRemL (p1 / 1000) 1000).toInt32) 10)) else if (r_X7_does (s_X7_does_tr (s_X7_does_Z (s_X7_does_Z (upd (upd (upd (upd Z 0 0) 18 (-9)) 20 0) 21 6) (s_X7_lay_t pg tr) (((kRemL (p1 / 1000000000) 1000).toInt32) / 100) (kRem (((kRemL (p1 / 1000000000) 1000).toInt32) / 10) 10) (kRem ((kRemL (p1 / 1000000000) 1000).toInt32) 10)) (s_X7_does_tr (upd (upd (upd (upd Z 0 0) 18 (-9)) 20 0) 21 6) (s_X7_lay_t pg tr) (((kRemL (p1 / 1000000000) 1000).toInt32) / 100) (kRem (((kRemL (p1 / 1000000000) 1000).toInt32) / 10) 10) (kRem ((kRemL (p1 / 1000000000) 1000).toInt32) 10)) (((kRemL (p1 / 1000000) 1000).toInt32) / 100) (kRem (((kRemL (p1 / 1000000) 1000).toInt32) / 10) 10) (kRem ((kRemL (p1 / 1000000) 1000).toInt32) 10)) (s_X7_does_tr (s_X7_does_Z (upd (upd (upd (upd Z 0 0) 18 (-9)) 20 0) 21 6) (s_X7_lay_t pg tr) (((kRemL (p1 / 1000000000) 1000).toInt32) / 100) (kRem (((kRemL (p1 / 1000000000) 1000).toInt32) / 10) 10) (kRem ((kRemL (p1 / 1000000000) 1000).toInt32) 10)) (s_X7_does_tr (upd (upd (upd (upd Z 0 0) 18 (-9)) 20 0) 21 6) (s_X7_lay_t pg tr) (((kRemL (p1 / 1000000000) 1000).toInt32) / 100) (kRem (((kRemL (p1 / 1000000000) 1000).toInt32) / 10) 10) (kRem ((kRemL (p1 / 1000000000) 1000).toInt32) 10)) (((kRemL (p1 / 1000000) 1000).toInt32) / 100) (kRem (((kRemL (p1 / 1000000) 1000).toInt32) / 10) 10) (kRem ((kRemL (p1 / 1000000) 1000).toInt32) 10)) (((kRemL (p1 / 1000) 1000).toInt32) / 100) (kRem (((kRemL (p1 / 1000) 1000).toInt32) / 10) 10) (kRem ((kRemL (p1 / 1000) 1000).toInt32) 10)) (((kRemL (p1 / 1) 1000).toInt32) / 100) (kRem (((kRemL (p1 / 1) 1000).toInt32) / 10) 10) (kRem ((kRemL (p1 / 1) 1000).toInt32) 10)) = 0 then (s_X7_does_tr (s_X7_does_Z (s_X7_does_Z (s_X7_does_Z (upd (upd (upd (upd Z 0 0) 18 (-9)) 20 0) 21 6) (s_X7_lay_t pg tr) (((kRemL (p1 / 1000000000) 1000).toInt32) / 100) (kRem (((kRemL (p1 / 1000000000) 1000).toInt32) / 10) 10) (kRem ((kRemL (p1 / 1000000000) 1000).toInt32) 10)) (s_X7_does_tr (upd (upd (upd (upd Z 0 0) 18 (-9)) 20 0) 21 6) (s_X7_lay_t pg tr) (((kRemL (p1 / 1000000000) 1000).toInt32) / 100) (kRem (((kRemL (p1 / 1000000000) 1000).toInt32) / 10) 10) (kRem ((kRemL (p1 / 1000000000) 1000).toInt32) 10)) (((kRemL (p1 / 1000000) 1000).toInt32) / 100) (kRem (((kRemL (p1 / 1000000) 1000).toInt32) / 10) 10) (kRem ((kRemL (p1 / 1000000) 1000).toInt32) 10)) (s_X7_does_tr (s_X7_does_Z (upd (upd (upd (upd Z 0 0) 18 (-9)) 20 0) 21 6) (s_X7_lay_t pg tr) (((kRemL (p1 / 1000000000) 1000).toInt32) / 100) (kRem (((kRemL (p1 / 1000000000) 1000).toInt32) / 10) 10) (kRem ((kRemL (p1 / 1000000000) 1000).toInt32) 10)) (s_X7_does_tr (upd (upd (upd (upd Z 0 0) 18 (-9)) 20 0) 21 6) (s_X7_lay_t pg tr) (((kRemL (p1 / 1000000000) 1000).toInt32) / 100) (kRem (((kRemL (p1 / 1000000000) 1000).toInt32) / 10) 10) (kRem ((kRemL (p1 / 1000000000) 1000).toInt32) 10)) (((kRemL (p1 / 1000000) 1000).toInt32) / 100) (kRem (((kRemL (p1 / 1000000) 1000).toInt32) / 10) 10) (kRem ((kRemL (p1 / 1000000) 1000).toInt32) 10)) (((kRemL (p1 / 1000) 1000).toInt32) / 100) (kRem (((kRemL (p1 / 1000) 1000).toInt32) / 10) 10) (kRem ((kRemL (p1 / 1000) 1000).toInt32) 10)) (s_X7_does_tr (s_X7_does_Z (s_X7_does_Z (upd (upd (upd (upd Z 0 0) 18 (-9)) 20 0) 21 6) (s_X7_lay_t pg tr) (((kRemL (p1 / 1000000000) 1000).toInt32) / 100) (kRem (((kRemL (p1 / 1000000000) 1000).toInt32) / 10) 10) (kRem ((kRemL (p1 / 1000000000) 1000).toInt32) 10)) (s_X7_does_tr (upd (upd (upd (upd Z 0 0) 18 (-9)) 20 0) 21 6) (s_X7_lay_t pg tr) (((kRemL (p1 / 1000000000) 1000).toInt32) / 100) (kRem (((kRemL (p1 / 1000000000) 1000).toInt32) / 10) 10) (kRem ((kRemL (p1 / 1000000000) 1000).toInt32) 10)) (((kRemL (p1 / 1000000) 1000).toInt32) / 100) (kRem (((kRemL (p1 / 1000000) 1000).toInt32) / 10) 10) (kRem ((kRemL (p1 / 1000000) 1000).toInt32) 10)) (s_X7_does_tr (s_X7_does_Z (upd (upd (upd (upd Z 0 0) 18 (-9)) 20 0) 21 6) (s_X7_lay_t pg tr) (((kRemL (p1 / 1000000000) 1000).toInt32) / 100) (kRem (((kRemL (p1 / 1000000000) 1000).toInt32) / 10) 10) (kRem ((kRemL (p1 / 1000000000) 1000).toInt32) 10)) (s_X7_does_tr (upd (upd (upd (upd Z 0 0) 18 (-9)) 20 0) 21 6) (s_X7_lay_t pg tr) (((kRemL (p1 / 1000000000) 1000).toInt32) / 100) (kRem (((kRemL (p1 / 1000000000) 1000).toInt32) / 10) 10) (kRem ((kRemL (p1 / 1000000000) 1000).toInt32) 10)) (((kRemL (p1 / 1000000) 1000).toInt32) / 100) (kRem (((kRemL (p1 / 1000000) 1000).toInt32) / 10) 10) (kRem ((kRemL (p1 / 1000000) 1000).toInt32) 10)) (((kRemL (p1 / 1000) 1000).toInt32) / 100) (kRem (((kRemL (p1 / 1000) 1000).toInt32) / 10) 10) (kRem ((kRemL (p1 / 1000) 1000).toInt32) 10)) (((kRemL (p1 / 1) 1000).toInt32) / 100) (kRem (((kRemL (p1 / 1) 1000).toInt32) / 10) 10) (kRem ((kRemL (p1 / 1) 1000).toInt32) 10)) else s_X7_does_tr (s_X7_does_Z (s_X7_does_Z (s_X7_does_Z (upd (upd (upd (upd Z 0 0) 18 (-9)) 20 0) 21 6) (s_X7_lay_t pg tr) (((kRemL (p1 / 1000000000) 1000).toInt32) / 100) (kRem (((kRemL (p1 / 1000000000) 1000).toInt32) / 10) 10) (kRem ((kRemL (p1 / 1000000000) 1000).toInt32) 10)) (s_X7_does_tr (upd (upd (upd (upd Z 0 0) 18 (-9)) 20 0) 21 6) (s_X7_lay_t pg tr) (((kRemL (p1 / 1000000000) 1000).toInt32) / 100) (kRem (((kRemL (p1 / 1000000000) 1000).toInt32) / 10) 10) (kRem ((kRemL (p1 / 1000000000) 1000).toInt32) 10)) (((kRemL (p1 / 1000000) 1000).toInt32) / 100) (kRem (((kRemL (p1 / 1000000) 1000).toInt32) / 10) 10) (kRem ((kRemL (p1 / 1000000) 1000).toInt32) 10)) (s_X7_does_tr (s_X7_does_Z (upd (upd (upd (upd Z 0 0) 18 (-9)) 20 0) 21 6) (s_X7_lay_t pg tr) (((kRemL (p1 / 1000000000) 1000).toInt32) / 100) (kRem (((kRemL (p1 / 1000000000) 1000).toInt32) / 10) 10) (kRem ((kRemL (p1 / 1000000000) 1000).toInt32) 10)) (s_X7_does_tr (upd (upd (upd (upd Z 0 0) 18 (-9)) 20 0) 21 6) (s_X7_lay_t pg tr) (((kRemL (p1 / 1000000000) 1000).toInt32) / 100) (kRem (((kRemL (p1 / 1000000000) 1000).toInt32) / 10) 10) (kRem ((kRemL (p1 / 1000000000) 1000).toInt32) 10)) (((kRemL (p1 / 1000000) 1000).toInt32) / 100) (kRem (((kRemL (p1 / 1000000) 1000).toInt32) / 10) 10) (kRem ((kRemL (p1 / 1000000) 1000).toInt32) 10)) (((kRemL (p1 / 1000) 1000).toInt32) / 100) (kRem (((kRemL (p1 / 1000) 1000).toInt32) / 10) 10) (kRem ((kRemL (p1 / 1000) 1000).toInt32) 10)) (s_X7_does_tr (s_X7_does_Z (s_X7_does_Z (upd (upd (upd (upd Z 0 0) 18 (-9)) 20 0) 21 6) (s_X7_lay_t pg tr) (((kRemL (p1 / 1000000000) 1000).toInt32) / 100) (kRem (((kRemL (p1 / 1000000000) 1000).toInt32) / 10) 10) (kRem ((kRemL (p1 / 1000000000) 1000).toInt32) 10)) (s_X7_does_tr (upd (upd (upd (upd Z 0 0) 18 (-9)) 20 0) 21 6) (s_X7_lay_t pg tr) (((kRemL (p1 / 1000000000) 1000).toInt32) / 100) (kRem (((kRemL (p1 / 1000000000) 1000).toInt32) / 10) 10) (kRem ((kRemL (p1 / 1000000000) 1000).toInt32) 10)) (((kRemL (p1 / 1000000) 1000).toInt32) / 100) (kRem (((kRemL (p1 / 1000000) 1000).toInt32) / 10) 10) (kRem ((kRemL (p1 / 1000000) 1000).toInt32) 10)) (s_X7_does_tr (s_X7_does_Z (upd (upd (upd (upd Z 0 0) 18 (-9)) 20 0) 21 6) (s_X7_lay_t pg tr) (((kRemL (p1 / 1000000000) 1000).toInt32) / 100) (kRem (((kRemL (p1 / 1000000000) 1000).toInt32) / 10) 10) (kRem ((kRemL (p1 / 1000000000) 1000).toInt32) 10)) (s_X7_does_tr (upd (upd (upd (upd Z 0 0) 18 (-9)) 20 0) 21 6) (s_X7_lay_t pg tr) (((kRemL (p1 / 1000000000) 1000).toInt32) / 100) (kRem (((kRemL (p1 / 1000000000) 1000).toInt32) / 10) 10) (kRem ((kRemL (p1 / 1000000000) 1000).toInt32) 10)) (((kRemL (p1 / 1000000) 1000).toInt32) / 100) (kRem (((kRemL (p1 / 1000000) 1000).toInt32) / 10) 10) (kRem ((kRemL (p1 / 1000000) 1000).toInt32) 10)) (((kRemL (p1 / 1000) 1000).toInt32) / 100) (kRem (((kRemL (p1 / 1000) 1000).toInt32) / 10) 10) (kRem ((kRemL (p1 / 1000) 1000).toInt32) 10)) (((kRemL (p1 / 1) 1000).toInt32) / 100) (kRem (((kRemL (p1 / 1) 1000).toInt32) / 10) 10) (kRem ((kRemL (p1 / 1) 1000).toInt32) 10)
set_option maxHeartbeats 4000000 in
set_option maxRecDepth 100000 in
theorem c_X7_judge_4 (l : Launch) (G : kG) (Z : Nat → Int32) (sd : Int64) (h0 : Nat) (q1 : Nat) (q2 : Nat) (q3 : Nat) (q4 : Nat) (q5 : Nat) (q6 : Nat) (q7 : Nat) (q8 : Nat) (q9 : Nat) (q10 : Nat) (q11 : Nat) (pg : Nat → Int32) (tr : Nat → Int32) (p1 : Int64) : cG l G yX7_judge cX7_judge 6 (some .int) 7 [.ref h0, .int 4, .long p1] ([(h0, .inr (7, cM Z q1 q2 q3 q4 q5 q6 q7 q8 q9 q10 q11 sd)), (q4, .inl (G.2.1, 55, .inl pg)), (q5, .inl (G.2.1, 55, .inl tr))]) (qI G (fun (r : Int32) (u : ((Nat → Int32) × (Nat → Int32))) => r = r_X7_judge_4 Z pg tr p1 ∧ u.1 = s_X7_judge_4_Z Z pg tr p1 ∧ u.2 = s_X7_judge_4_tr Z pg tr p1) (fun u => [(h0, .inr (7, cM u.1 q1 q2 q3 q4 q5 q6 q7 q8 q9 q10 q11 sd)), (q4, .inl (G.2.1, 55, .inl pg)), (q5, .inl (G.2.1, 55, .inl u.2))])) := by
  refine kintro (by decide) (Nat.le_of_ble_eq_true rfl) ?_
  intro p e s m args below meth c A ls kx hK hP hD hS hA hl
  have kx : kX p s m args meth c cX7_judge 6 (some .int) RX7 := kx
  have hx := kx.1
  have hb := kx.2.1
  have hown := kx.2.2.2.2.1
  have ht := kx.2.2.2.2.2.2
  have hl : lv_has ls 6 [(0, .ref h0), (1, .int 4), (2, .long p1)] := hl
  refine lv_aload_n hx hb dX7_judge_0 rfl (lv_at hl 0 rfl) ?_
  refine lv_iconst (v := 0) hx hb dX7_judge_1 (by decide) ?_
  refine va_put (ci := 7) (v := .int 0) (ty := .int) (C := RX7) (T := TX7) (N := 22) hx hb ht inX7 tyX7 tyX7_ok nmX7 hown hK.1 hP hD hS 0 rfl rfl 0 (by decide) (ht _ q_666) (fun _ h9 => h9) rfl (by decide +kernel) rfl rfl (Nat.le_of_ble_eq_true rfl) dX7_judge_2 (fun H1 locs1 hP1 hD1 hS1 => ?_)
  have hP2 : va_P G.1 vwCl ([(h0, .inr (7, cM (upd Z 0 0) q1 q2 q3 q4 q5 q6 q7 q8 q9 q10 q11 sd)), (q4, .inl (G.2.1, 55, .inl pg)), (q5, .inl (G.2.1, 55, .inl tr))]) H1 := hP1
  have hD3 : va_D A ([(h0, .inr (7, cM (upd Z 0 0) q1 q2 q3 q4 q5 q6 q7 q8 q9 q10 q11 sd)), (q4, .inl (G.2.1, 55, .inl pg)), (q5, .inl (G.2.1, 55, .inl tr))]) := hD1
  refine lv_iload_n hx hb dX7_judge_5 rfl (lv_at hl 1 rfl) ?_
  refine lv_i2l (v := 4) hx hb dX7_judge_6 (by decide +kernel) ?_
  refine lv_lconst (v := 1) hx hb dX7_judge_7 (by decide) ?_
  refine lv_ldc2 (v := 4) hx hb hown (ht _ q_842) dX7_judge_8 ?_
  refine k_calli (kRunS (As := [.long 4, .long 1, .long 4]) (rest := []) kx (c_X7_in_414 l G ) q_740 q_738 q_36 q_739 nX7_in ⟨Nat.le_of_ble_eq_true rfl, Nat.le_of_ble_eq_true rfl⟩ hK hP2 hD3 (kCtx_nil _) rfl hl.1 (Nat.le_of_ble_eq_true rfl) dX7_judge_11 ⟨Nat.zero_le _, Nat.zero_le _⟩) hP2 hD3 hS1 hA (kCtx_nil _) (fun _ => rfl) (fun r1 _ H4 locs4 hw hP4 hD4 hS4 => ?_)
  have hr1 : 1 = r1 := (show r1 = 1 from hw).symm
  subst hr1
  have hP5 : va_P G.1 vwCl ([(h0, .inr (7, cM (upd Z 0 0) q1 q2 q3 q4 q5 q6 q7 q8 q9 q10 q11 sd)), (q4, .inl (G.2.1, 55, .inl pg)), (q5, .inl (G.2.1, 55, .inl tr))]) H4 := hP4
  have hD6 : va_D A ([(h0, .inr (7, cM (upd Z 0 0) q1 q2 q3 q4 q5 q6 q7 q8 q9 q10 q11 sd)), (q4, .inl (G.2.1, 55, .inl pg)), (q5, .inl (G.2.1, 55, .inl tr))]) := hD4
  refine lv_if_eq (x := 1) (tgt := 34) hx hb dX7_judge_14 (by decide) (fun (c2 : 1 = 0) => absurd c2 (by decide)) (fun (c2 : ¬ (1 = 0)) => ?_)
  refine lv_lload_n hx hb dX7_judge_17 rfl (lv_at hl 2 rfl) ?_
  refine lv_lconst (v := 0) hx hb dX7_judge_18 (by decide) ?_
  refine lv_ldc2 (v := 1000) hx hb hown (ht _ q_907) dX7_judge_19 ?_
  refine lv_iload_n hx hb dX7_judge_22 rfl (lv_at hl 1 rfl) ?_
  refine k_calll (kRunS (As := [.long 1000, .int 4]) (rest := [.long 0, .long p1]) kx (c_X7_longPower_4 l G ) q_910 q_908 q_36 q_909 nX7_longPower ⟨Nat.le_of_ble_eq_true rfl, Nat.le_of_ble_eq_true rfl⟩ hK hP5 hD6 (kCtx_nil _) rfl hl.1 (Nat.le_of_ble_eq_true rfl) dX7_judge_23 ⟨Nat.zero_le _, Nat.zero_le _⟩) hP5 hD6 hS4 hA (kCtx_nil _) (fun _ => rfl) (fun r3 _ H7 locs7 hw hP7 hD7 hS7 => ?_)
  have hr3 : 1000000000000 = r3 := (show r3 = 1000000000000 from hw).symm
  subst hr3
  have hP8 : va_P G.1 vwCl ([(h0, .inr (7, cM (upd Z 0 0) q1 q2 q3 q4 q5 q6 q7 q8 q9 q10 q11 sd)), (q4, .inl (G.2.1, 55, .inl pg)), (q5, .inl (G.2.1, 55, .inl tr))]) H7 := hP7
  have hD9 : va_D A ([(h0, .inr (7, cM (upd Z 0 0) q1 q2 q3 q4 q5 q6 q7 q8 q9 q10 q11 sd)), (q4, .inl (G.2.1, 55, .inl pg)), (q5, .inl (G.2.1, 55, .inl tr))]) := hD7
  refine lv_lconst (v := 1) hx hb dX7_judge_26 (by decide) ?_
  refine lv_lsub hx hb dX7_judge_27 ?_
  refine k_topl (y := 999999999999) (by decide +kernel) ?_
  refine k_calli (kRunS (As := [.long p1, .long 0, .long 999999999999]) (rest := []) kx (c_X7_in l G p1 0 999999999999) q_740 q_738 q_36 q_739 nX7_in ⟨Nat.le_of_ble_eq_true rfl, Nat.le_of_ble_eq_true rfl⟩ hK hP8 hD9 (kCtx_nil _) rfl hl.1 (Nat.le_of_ble_eq_true rfl) dX7_judge_28 ⟨Nat.zero_le _, Nat.zero_le _⟩) hP8 hD9 hS7 hA (kCtx_nil _) (fun _ => rfl) (fun r4 _ H10 locs10 hw hP10 hD10 hS10 => ?_)
  have hr4 : r_X7_in p1 0 999999999999 = r4 := (show r4 = r_X7_in p1 0 999999999999 from hw).symm
  have hP11 : va_P G.1 vwCl ([(h0, .inr (7, cM (upd Z 0 0) q1 q2 q3 q4 q5 q6 q7 q8 q9 q10 q11 sd)), (q4, .inl (G.2.1, 55, .inl pg)), (q5, .inl (G.2.1, 55, .inl tr))]) H10 := hP10
  have hD12 : va_D A ([(h0, .inr (7, cM (upd Z 0 0) q1 q2 q3 q4 q5 q6 q7 q8 q9 q10 q11 sd)), (q4, .inl (G.2.1, 55, .inl pg)), (q5, .inl (G.2.1, 55, .inl tr))]) := hD10
  refine lv_if_ne (x := r4) (tgt := 37) hx hb dX7_judge_31 (by decide) (fun (c5 : ¬ (r4 = 0)) => ?_) (fun (c5 : r4 = 0) => ?_)
  · skip
    refine lv_aload_n hx hb dX7_judge_37 rfl (lv_at hl 0 rfl) ?_
    refine k_callv (kRunV (As := []) (rest := []) kx (c_X7_layTrial l G (upd Z 0 0) sd h0 q1 q2 q3 q4 q5 q6 q7 q8 q9 q10 q11 pg tr) q_774 q_771 q_36 q_773 q_16 nX7_layTrial ⟨Nat.le_of_ble_eq_true rfl, Nat.le_of_ble_eq_true rfl⟩ hK hP11 hD12 (kCtx_all _) 0 7 rfl rfl rfl rfl hl.1 (Nat.le_of_ble_eq_true rfl) dX7_judge_38 ⟨Nat.zero_le _, Nat.zero_le _⟩) hP11 hD12 hS10 hA (kCtx_all _) (fun _ => rfl) (fun _ H13 locs13 hw hP13 hD13 hS13 => ?_)
    have hP14 : va_P G.1 vwCl ([(h0, .inr (7, cM (upd (upd (upd (upd Z 0 0) 18 (-9)) 20 0) 21 6) q1 q2 q3 q4 q5 q6 q7 q8 q9 q10 q11 sd)), (q4, .inl (G.2.1, 55, .inl pg)), (q5, .inl (G.2.1, 55, .inl (s_X7_lay_t pg tr)))]) H13 := hP13
    have hD15 : va_D A ([(h0, .inr (7, cM (upd (upd (upd (upd Z 0 0) 18 (-9)) 20 0) 21 6) q1 q2 q3 q4 q5 q6 q7 q8 q9 q10 q11 sd)), (q4, .inl (G.2.1, 55, .inl pg)), (q5, .inl (G.2.1, 55, .inl (s_X7_lay_t pg tr)))]) := hD13
    refine lv_iconst (v := 0) hx hb dX7_judge_41 (by decide) ?_
    refine lv_istore (lv' := [(4, .int 0), (0, .ref h0), (1, .int 4), (2, .long p1)]) hx hb dX7_judge_42 hl (by decide) rfl (fun ls16 hl16 => ?_)
    refine lv_iload hx hb dX7_judge_44 (lv_at hl16 0 rfl) ?_
    refine lv_iload_n hx hb dX7_judge_46 rfl (lv_at hl16 2 rfl) ?_
    refine lv_icmp_ge (x := 0) (y := 4) (tgt := 105) hx hb dX7_judge_47 (by decide) (fun (c7 : 4 ≤ 0) => absurd c7 (by decide)) (fun (c7 : ¬ (4 ≤ 0)) => ?_)
    refine lv_lload_n hx hb dX7_judge_50 rfl (lv_at hl16 3 rfl) ?_
    refine lv_ldc2 (v := 1000) hx hb hown (ht _ q_907) dX7_judge_51 ?_
    refine lv_iload_n hx hb dX7_judge_54 rfl (lv_at hl16 2 rfl) ?_
    refine lv_iconst (v := 1) hx hb dX7_judge_55 (by decide) ?_
    refine lv_isub hx hb dX7_judge_56 ?_
    refine k_top (y := 3) (by decide +kernel) ?_
    refine lv_iload hx hb dX7_judge_57 (lv_at hl16 0 rfl) ?_
    refine lv_isub hx hb dX7_judge_59 ?_
    refine k_top (y := 3) (by decide +kernel) ?_
    refine k_calll (kRunS (As := [.long 1000, .int 3]) (rest := [.long p1]) kx (c_X7_longPower_3 l G ) q_910 q_908 q_36 q_909 nX7_longPower ⟨Nat.le_of_ble_eq_true rfl, Nat.le_of_ble_eq_true rfl⟩ hK hP14 hD15 (kCtx_nil _) rfl hl16.1 (Nat.le_of_ble_eq_true rfl) dX7_judge_60 ⟨Nat.zero_le _, Nat.zero_le _⟩) hP14 hD15 hS13 hA (kCtx_nil _) (fun _ => rfl) (fun r8 _ H17 locs17 hw hP17 hD17 hS17 => ?_)
    have hr8 : 1000000000 = r8 := (show r8 = 1000000000 from hw).symm
    subst hr8
    have hP18 : va_P G.1 vwCl ([(h0, .inr (7, cM (upd (upd (upd (upd Z 0 0) 18 (-9)) 20 0) 21 6) q1 q2 q3 q4 q5 q6 q7 q8 q9 q10 q11 sd)), (q4, .inl (G.2.1, 55, .inl pg)), (q5, .inl (G.2.1, 55, .inl (s_X7_lay_t pg tr)))]) H17 := hP17
    have hD19 : va_D A ([(h0, .inr (7, cM (upd (upd (upd (upd Z 0 0) 18 (-9)) 20 0) 21 6) q1 q2 q3 q4 q5 q6 q7 q8 q9 q10 q11 sd)), (q4, .inl (G.2.1, 55, .inl pg)), (q5, .inl (G.2.1, 55, .inl (s_X7_lay_t pg tr)))]) := hD17
    refine lv_ldiv hx hb dX7_judge_63 (by decide) ?_
    refine lv_ldc2 (v := 1000) hx hb hown (ht _ q_907) dX7_judge_64 ?_
    refine lv_lrem hx hb dX7_judge_67 (by decide) ?_
    refine k_topl (y := kRemL (p1 / 1000000000) 1000) rfl ?_
    refine lv_l2i (v := (kRemL (p1 / 1000000000) 1000).toInt32) hx hb dX7_judge_68 rfl ?_
    refine lv_istore (lv' := [(5, .int ((kRemL (p1 / 1000000000) 1000).toInt32)), (4, .int 0), (0, .ref h0), (1, .int 4), (2, .long p1)]) hx hb dX7_judge_69 hl16 (by decide) rfl (fun ls20 hl20 => ?_)
    refine lv_aload_n hx hb dX7_judge_71 rfl (lv_at hl20 2 rfl) ?_
    refine lv_iload hx hb dX7_judge_72 (lv_at hl20 0 rfl) ?_
    refine lv_bipush (v := 100) hx hb dX7_judge_74 (by decide) ?_
    refine lv_idiv hx hb dX7_judge_76 (by decide) ?_
    refine lv_iload hx hb dX7_judge_77 (lv_at hl20 0 rfl) ?_
    refine lv_bipush (v := 10) hx hb dX7_judge_79 (by decide) ?_
    refine lv_idiv hx hb dX7_judge_81 (by decide) ?_
    refine lv_bipush (v := 10) hx hb dX7_judge_82 (by decide) ?_
    refine lv_irem hx hb dX7_judge_84 (by decide) ?_
    refine k_top (y := kRem (((kRemL (p1 / 1000000000) 1000).toInt32) / 10) 10) rfl ?_
    refine lv_iload hx hb dX7_judge_85 (lv_at hl20 0 rfl) ?_
    refine lv_bipush (v := 10) hx hb dX7_judge_87 (by decide) ?_
    refine lv_irem hx hb dX7_judge_89 (by decide) ?_
    refine k_top (y := kRem ((kRemL (p1 / 1000000000) 1000).toInt32) 10) rfl ?_
    refine k_calli (kRunV (As := [.int (((kRemL (p1 / 1000000000) 1000).toInt32) / 100), .int (kRem (((kRemL (p1 / 1000000000) 1000).toInt32) / 10) 10), .int (kRem ((kRemL (p1 / 1000000000) 1000).toInt32) 10)]) (rest := []) kx (c_X7_does l G (upd (upd (upd (upd Z 0 0) 18 (-9)) 20 0) 21 6) sd h0 q1 q2 q3 q4 q5 q6 q7 q8 q9 q10 q11 (s_X7_lay_t pg tr) (((kRemL (p1 / 1000000000) 1000).toInt32) / 100) (kRem (((kRemL (p1 / 1000000000) 1000).toInt32) / 10) 10) (kRem ((kRemL (p1 / 1000000000) 1000).toInt32) 10)) q_914 q_911 q_36 q_913 q_25 nX7_does ⟨Nat.le_of_ble_eq_true rfl, Nat.le_of_ble_eq_true rfl⟩ hK hP18 hD19 (kCtx_places _ _ [0, 2] rfl rfl) 0 7 rfl rfl rfl rfl hl20.1 (Nat.le_of_ble_eq_true rfl) dX7_judge_90 ⟨Nat.zero_le _, Nat.zero_le _⟩) hP18 hD19 hS17 hA (kCtx_places _ _ [0, 2] rfl rfl) (fun _ => rfl) (fun r9 u H21 locs21 hw hP21 hD21 hS21 => ?_)
    obtain ⟨F10, F11⟩ := u
    obtain ⟨hr9, hF10, hF11⟩ := hw
    have hr9 : r_X7_does (s_X7_lay_t pg tr) (((kRemL (p1 / 1000000000) 1000).toInt32) / 100) (kRem (((kRemL (p1 / 1000000000) 1000).toInt32) / 10) 10) (kRem ((kRemL (p1 / 1000000000) 1000).toInt32) 10) = r9 := (show r9 = r_X7_does (s_X7_lay_t pg tr) (((kRemL (p1 / 1000000000) 1000).toInt32) / 100) (kRem (((kRemL (p1 / 1000000000) 1000).toInt32) / 10) 10) (kRem ((kRemL (p1 / 1000000000) 1000).toInt32) 10) from hr9).symm
    have hF10 : s_X7_does_Z (upd (upd (upd (upd Z 0 0) 18 (-9)) 20 0) 21 6) (s_X7_lay_t pg tr) (((kRemL (p1 / 1000000000) 1000).toInt32) / 100) (kRem (((kRemL (p1 / 1000000000) 1000).toInt32) / 10) 10) (kRem ((kRemL (p1 / 1000000000) 1000).toInt32) 10) = F10 := (show F10 = s_X7_does_Z (upd (upd (upd (upd Z 0 0) 18 (-9)) 20 0) 21 6) (s_X7_lay_t pg tr) (((kRemL (p1 / 1000000000) 1000).toInt32) / 100) (kRem (((kRemL (p1 / 1000000000) 1000).toInt32) / 10) 10) (kRem ((kRemL (p1 / 1000000000) 1000).toInt32) 10) from hF10).symm
    have hF11 : s_X7_does_tr (upd (upd (upd (upd Z 0 0) 18 (-9)) 20 0) 21 6) (s_X7_lay_t pg tr) (((kRemL (p1 / 1000000000) 1000).toInt32) / 100) (kRem (((kRemL (p1 / 1000000000) 1000).toInt32) / 10) 10) (kRem ((kRemL (p1 / 1000000000) 1000).toInt32) 10) = F11 := (show F11 = s_X7_does_tr (upd (upd (upd (upd Z 0 0) 18 (-9)) 20 0) 21 6) (s_X7_lay_t pg tr) (((kRemL (p1 / 1000000000) 1000).toInt32) / 100) (kRem (((kRemL (p1 / 1000000000) 1000).toInt32) / 10) 10) (kRem ((kRemL (p1 / 1000000000) 1000).toInt32) 10) from hF11).symm
    have hP22 : va_P G.1 vwCl ([(h0, .inr (7, cM F10 q1 q2 q3 q4 q5 q6 q7 q8 q9 q10 q11 sd)), (q4, .inl (G.2.1, 55, .inl pg)), (q5, .inl (G.2.1, 55, .inl F11))]) H21 := hP21
    have hD23 : va_D A ([(h0, .inr (7, cM F10 q1 q2 q3 q4 q5 q6 q7 q8 q9 q10 q11 sd)), (q4, .inl (G.2.1, 55, .inl pg)), (q5, .inl (G.2.1, 55, .inl F11))]) := hD21
    refine lv_if_ne (x := r9) (tgt := 99) hx hb dX7_judge_93 (by decide) (fun (c12 : ¬ (r9 = 0)) => ?_) (fun (c12 : r9 = 0) => ?_)
    · skip
      refine lv_iinc (v := 1) (lv' := [(4, .int 1), (5, .int ((kRemL (p1 / 1000000000) 1000).toInt32)), (0, .ref h0), (1, .int 4), (2, .long p1)]) hx hb dX7_judge_99 hl20 (k := 1) rfl (by decide +kernel) (by decide) rfl (fun ls24 hl24 => ?_)
      refine lv_goto (tgt := 44) hx hb dX7_judge_102 (by decide) ?_
      refine lv_iload hx hb dX7_judge_44 (lv_at hl24 0 rfl) ?_
      refine lv_iload_n hx hb dX7_judge_46 rfl (lv_at hl24 3 rfl) ?_
      refine lv_icmp_ge (x := 1) (y := 4) (tgt := 105) hx hb dX7_judge_47 (by decide) (fun (c13 : 4 ≤ 1) => absurd c13 (by decide)) (fun (c13 : ¬ (4 ≤ 1)) => ?_)
      refine lv_lload_n hx hb dX7_judge_50 rfl (lv_at hl24 4 rfl) ?_
      refine lv_ldc2 (v := 1000) hx hb hown (ht _ q_907) dX7_judge_51 ?_
      refine lv_iload_n hx hb dX7_judge_54 rfl (lv_at hl24 3 rfl) ?_
      refine lv_iconst (v := 1) hx hb dX7_judge_55 (by decide) ?_
      refine lv_isub hx hb dX7_judge_56 ?_
      refine k_top (y := 3) (by decide +kernel) ?_
      refine lv_iload hx hb dX7_judge_57 (lv_at hl24 0 rfl) ?_
      refine lv_isub hx hb dX7_judge_59 ?_
      refine k_top (y := 2) (by decide +kernel) ?_
      refine k_calll (kRunS (As := [.long 1000, .int 2]) (rest := [.long p1]) kx (c_X7_longPower_2 l G ) q_910 q_908 q_36 q_909 nX7_longPower ⟨Nat.le_of_ble_eq_true rfl, Nat.le_of_ble_eq_true rfl⟩ hK hP22 hD23 (kCtx_nil _) rfl hl24.1 (Nat.le_of_ble_eq_true rfl) dX7_judge_60 ⟨Nat.zero_le _, Nat.zero_le _⟩) hP22 hD23 hS21 hA (kCtx_nil _) (fun _ => rfl) (fun r14 _ H25 locs25 hw hP25 hD25 hS25 => ?_)
      have hr14 : 1000000 = r14 := (show r14 = 1000000 from hw).symm
      subst hr14
      have hP26 : va_P G.1 vwCl ([(h0, .inr (7, cM F10 q1 q2 q3 q4 q5 q6 q7 q8 q9 q10 q11 sd)), (q4, .inl (G.2.1, 55, .inl pg)), (q5, .inl (G.2.1, 55, .inl F11))]) H25 := hP25
      have hD27 : va_D A ([(h0, .inr (7, cM F10 q1 q2 q3 q4 q5 q6 q7 q8 q9 q10 q11 sd)), (q4, .inl (G.2.1, 55, .inl pg)), (q5, .inl (G.2.1, 55, .inl F11))]) := hD25
      refine lv_ldiv hx hb dX7_judge_63 (by decide) ?_
      refine lv_ldc2 (v := 1000) hx hb hown (ht _ q_907) dX7_judge_64 ?_
      refine lv_lrem hx hb dX7_judge_67 (by decide) ?_
      refine k_topl (y := kRemL (p1 / 1000000) 1000) rfl ?_
      refine lv_l2i (v := (kRemL (p1 / 1000000) 1000).toInt32) hx hb dX7_judge_68 rfl ?_
      refine lv_istore (lv' := [(5, .int ((kRemL (p1 / 1000000) 1000).toInt32)), (4, .int 1), (0, .ref h0), (1, .int 4), (2, .long p1)]) hx hb dX7_judge_69 hl24 (by decide) rfl (fun ls28 hl28 => ?_)
      refine lv_aload_n hx hb dX7_judge_71 rfl (lv_at hl28 2 rfl) ?_
      refine lv_iload hx hb dX7_judge_72 (lv_at hl28 0 rfl) ?_
      refine lv_bipush (v := 100) hx hb dX7_judge_74 (by decide) ?_
      refine lv_idiv hx hb dX7_judge_76 (by decide) ?_
      refine lv_iload hx hb dX7_judge_77 (lv_at hl28 0 rfl) ?_
      refine lv_bipush (v := 10) hx hb dX7_judge_79 (by decide) ?_
      refine lv_idiv hx hb dX7_judge_81 (by decide) ?_
      refine lv_bipush (v := 10) hx hb dX7_judge_82 (by decide) ?_
      refine lv_irem hx hb dX7_judge_84 (by decide) ?_
      refine k_top (y := kRem (((kRemL (p1 / 1000000) 1000).toInt32) / 10) 10) rfl ?_
      refine lv_iload hx hb dX7_judge_85 (lv_at hl28 0 rfl) ?_
      refine lv_bipush (v := 10) hx hb dX7_judge_87 (by decide) ?_
      refine lv_irem hx hb dX7_judge_89 (by decide) ?_
      refine k_top (y := kRem ((kRemL (p1 / 1000000) 1000).toInt32) 10) rfl ?_
      refine k_calli (kRunV (As := [.int (((kRemL (p1 / 1000000) 1000).toInt32) / 100), .int (kRem (((kRemL (p1 / 1000000) 1000).toInt32) / 10) 10), .int (kRem ((kRemL (p1 / 1000000) 1000).toInt32) 10)]) (rest := []) kx (c_X7_does l G F10 sd h0 q1 q2 q3 q4 q5 q6 q7 q8 q9 q10 q11 F11 (((kRemL (p1 / 1000000) 1000).toInt32) / 100) (kRem (((kRemL (p1 / 1000000) 1000).toInt32) / 10) 10) (kRem ((kRemL (p1 / 1000000) 1000).toInt32) 10)) q_914 q_911 q_36 q_913 q_25 nX7_does ⟨Nat.le_of_ble_eq_true rfl, Nat.le_of_ble_eq_true rfl⟩ hK hP26 hD27 (kCtx_places _ _ [0, 2] rfl rfl) 0 7 rfl rfl rfl rfl hl28.1 (Nat.le_of_ble_eq_true rfl) dX7_judge_90 ⟨Nat.zero_le _, Nat.zero_le _⟩) hP26 hD27 hS25 hA (kCtx_places _ _ [0, 2] rfl rfl) (fun _ => rfl) (fun r15 u H29 locs29 hw hP29 hD29 hS29 => ?_)
      obtain ⟨F16, F17⟩ := u
      obtain ⟨hr15, hF16, hF17⟩ := hw
      have hr15 : r_X7_does F11 (((kRemL (p1 / 1000000) 1000).toInt32) / 100) (kRem (((kRemL (p1 / 1000000) 1000).toInt32) / 10) 10) (kRem ((kRemL (p1 / 1000000) 1000).toInt32) 10) = r15 := (show r15 = r_X7_does F11 (((kRemL (p1 / 1000000) 1000).toInt32) / 100) (kRem (((kRemL (p1 / 1000000) 1000).toInt32) / 10) 10) (kRem ((kRemL (p1 / 1000000) 1000).toInt32) 10) from hr15).symm
      have hF16 : s_X7_does_Z F10 F11 (((kRemL (p1 / 1000000) 1000).toInt32) / 100) (kRem (((kRemL (p1 / 1000000) 1000).toInt32) / 10) 10) (kRem ((kRemL (p1 / 1000000) 1000).toInt32) 10) = F16 := (show F16 = s_X7_does_Z F10 F11 (((kRemL (p1 / 1000000) 1000).toInt32) / 100) (kRem (((kRemL (p1 / 1000000) 1000).toInt32) / 10) 10) (kRem ((kRemL (p1 / 1000000) 1000).toInt32) 10) from hF16).symm
      have hF17 : s_X7_does_tr F10 F11 (((kRemL (p1 / 1000000) 1000).toInt32) / 100) (kRem (((kRemL (p1 / 1000000) 1000).toInt32) / 10) 10) (kRem ((kRemL (p1 / 1000000) 1000).toInt32) 10) = F17 := (show F17 = s_X7_does_tr F10 F11 (((kRemL (p1 / 1000000) 1000).toInt32) / 100) (kRem (((kRemL (p1 / 1000000) 1000).toInt32) / 10) 10) (kRem ((kRemL (p1 / 1000000) 1000).toInt32) 10) from hF17).symm
      have hP30 : va_P G.1 vwCl ([(h0, .inr (7, cM F16 q1 q2 q3 q4 q5 q6 q7 q8 q9 q10 q11 sd)), (q4, .inl (G.2.1, 55, .inl pg)), (q5, .inl (G.2.1, 55, .inl F17))]) H29 := hP29
      have hD31 : va_D A ([(h0, .inr (7, cM F16 q1 q2 q3 q4 q5 q6 q7 q8 q9 q10 q11 sd)), (q4, .inl (G.2.1, 55, .inl pg)), (q5, .inl (G.2.1, 55, .inl F17))]) := hD29
      refine lv_if_ne (x := r15) (tgt := 99) hx hb dX7_judge_93 (by decide) (fun (c18 : ¬ (r15 = 0)) => ?_) (fun (c18 : r15 = 0) => ?_)
      · skip
        refine lv_iinc (v := 2) (lv' := [(4, .int 2), (5, .int ((kRemL (p1 / 1000000) 1000).toInt32)), (0, .ref h0), (1, .int 4), (2, .long p1)]) hx hb dX7_judge_99 hl28 (k := 1) rfl (by decide +kernel) (by decide) rfl (fun ls32 hl32 => ?_)
        refine lv_goto (tgt := 44) hx hb dX7_judge_102 (by decide) ?_
        refine lv_iload hx hb dX7_judge_44 (lv_at hl32 0 rfl) ?_
        refine lv_iload_n hx hb dX7_judge_46 rfl (lv_at hl32 3 rfl) ?_
        refine lv_icmp_ge (x := 2) (y := 4) (tgt := 105) hx hb dX7_judge_47 (by decide) (fun (c19 : 4 ≤ 2) => absurd c19 (by decide)) (fun (c19 : ¬ (4 ≤ 2)) => ?_)
        refine lv_lload_n hx hb dX7_judge_50 rfl (lv_at hl32 4 rfl) ?_
        refine lv_ldc2 (v := 1000) hx hb hown (ht _ q_907) dX7_judge_51 ?_
        refine lv_iload_n hx hb dX7_judge_54 rfl (lv_at hl32 3 rfl) ?_
        refine lv_iconst (v := 1) hx hb dX7_judge_55 (by decide) ?_
        refine lv_isub hx hb dX7_judge_56 ?_
        refine k_top (y := 3) (by decide +kernel) ?_
        refine lv_iload hx hb dX7_judge_57 (lv_at hl32 0 rfl) ?_
        refine lv_isub hx hb dX7_judge_59 ?_
        refine k_top (y := 1) (by decide +kernel) ?_
        refine k_calll (kRunS (As := [.long 1000, .int 1]) (rest := [.long p1]) kx (c_X7_longPower_1 l G ) q_910 q_908 q_36 q_909 nX7_longPower ⟨Nat.le_of_ble_eq_true rfl, Nat.le_of_ble_eq_true rfl⟩ hK hP30 hD31 (kCtx_nil _) rfl hl32.1 (Nat.le_of_ble_eq_true rfl) dX7_judge_60 ⟨Nat.zero_le _, Nat.zero_le _⟩) hP30 hD31 hS29 hA (kCtx_nil _) (fun _ => rfl) (fun r20 _ H33 locs33 hw hP33 hD33 hS33 => ?_)
        have hr20 : 1000 = r20 := (show r20 = 1000 from hw).symm
        subst hr20
        have hP34 : va_P G.1 vwCl ([(h0, .inr (7, cM F16 q1 q2 q3 q4 q5 q6 q7 q8 q9 q10 q11 sd)), (q4, .inl (G.2.1, 55, .inl pg)), (q5, .inl (G.2.1, 55, .inl F17))]) H33 := hP33
        have hD35 : va_D A ([(h0, .inr (7, cM F16 q1 q2 q3 q4 q5 q6 q7 q8 q9 q10 q11 sd)), (q4, .inl (G.2.1, 55, .inl pg)), (q5, .inl (G.2.1, 55, .inl F17))]) := hD33
        refine lv_ldiv hx hb dX7_judge_63 (by decide) ?_
        refine lv_ldc2 (v := 1000) hx hb hown (ht _ q_907) dX7_judge_64 ?_
        refine lv_lrem hx hb dX7_judge_67 (by decide) ?_
        refine k_topl (y := kRemL (p1 / 1000) 1000) rfl ?_
        refine lv_l2i (v := (kRemL (p1 / 1000) 1000).toInt32) hx hb dX7_judge_68 rfl ?_
        refine lv_istore (lv' := [(5, .int ((kRemL (p1 / 1000) 1000).toInt32)), (4, .int 2), (0, .ref h0), (1, .int 4), (2, .long p1)]) hx hb dX7_judge_69 hl32 (by decide) rfl (fun ls36 hl36 => ?_)
        refine lv_aload_n hx hb dX7_judge_71 rfl (lv_at hl36 2 rfl) ?_
        refine lv_iload hx hb dX7_judge_72 (lv_at hl36 0 rfl) ?_
        refine lv_bipush (v := 100) hx hb dX7_judge_74 (by decide) ?_
        refine lv_idiv hx hb dX7_judge_76 (by decide) ?_
        refine lv_iload hx hb dX7_judge_77 (lv_at hl36 0 rfl) ?_
        refine lv_bipush (v := 10) hx hb dX7_judge_79 (by decide) ?_
        refine lv_idiv hx hb dX7_judge_81 (by decide) ?_
        refine lv_bipush (v := 10) hx hb dX7_judge_82 (by decide) ?_
        refine lv_irem hx hb dX7_judge_84 (by decide) ?_
        refine k_top (y := kRem (((kRemL (p1 / 1000) 1000).toInt32) / 10) 10) rfl ?_
        refine lv_iload hx hb dX7_judge_85 (lv_at hl36 0 rfl) ?_
        refine lv_bipush (v := 10) hx hb dX7_judge_87 (by decide) ?_
        refine lv_irem hx hb dX7_judge_89 (by decide) ?_
        refine k_top (y := kRem ((kRemL (p1 / 1000) 1000).toInt32) 10) rfl ?_
        refine k_calli (kRunV (As := [.int (((kRemL (p1 / 1000) 1000).toInt32) / 100), .int (kRem (((kRemL (p1 / 1000) 1000).toInt32) / 10) 10), .int (kRem ((kRemL (p1 / 1000) 1000).toInt32) 10)]) (rest := []) kx (c_X7_does l G F16 sd h0 q1 q2 q3 q4 q5 q6 q7 q8 q9 q10 q11 F17 (((kRemL (p1 / 1000) 1000).toInt32) / 100) (kRem (((kRemL (p1 / 1000) 1000).toInt32) / 10) 10) (kRem ((kRemL (p1 / 1000) 1000).toInt32) 10)) q_914 q_911 q_36 q_913 q_25 nX7_does ⟨Nat.le_of_ble_eq_true rfl, Nat.le_of_ble_eq_true rfl⟩ hK hP34 hD35 (kCtx_places _ _ [0, 2] rfl rfl) 0 7 rfl rfl rfl rfl hl36.1 (Nat.le_of_ble_eq_true rfl) dX7_judge_90 ⟨Nat.zero_le _, Nat.zero_le _⟩) hP34 hD35 hS33 hA (kCtx_places _ _ [0, 2] rfl rfl) (fun _ => rfl) (fun r21 u H37 locs37 hw hP37 hD37 hS37 => ?_)
        obtain ⟨F22, F23⟩ := u
        obtain ⟨hr21, hF22, hF23⟩ := hw
        have hr21 : r_X7_does F17 (((kRemL (p1 / 1000) 1000).toInt32) / 100) (kRem (((kRemL (p1 / 1000) 1000).toInt32) / 10) 10) (kRem ((kRemL (p1 / 1000) 1000).toInt32) 10) = r21 := (show r21 = r_X7_does F17 (((kRemL (p1 / 1000) 1000).toInt32) / 100) (kRem (((kRemL (p1 / 1000) 1000).toInt32) / 10) 10) (kRem ((kRemL (p1 / 1000) 1000).toInt32) 10) from hr21).symm
        have hF22 : s_X7_does_Z F16 F17 (((kRemL (p1 / 1000) 1000).toInt32) / 100) (kRem (((kRemL (p1 / 1000) 1000).toInt32) / 10) 10) (kRem ((kRemL (p1 / 1000) 1000).toInt32) 10) = F22 := (show F22 = s_X7_does_Z F16 F17 (((kRemL (p1 / 1000) 1000).toInt32) / 100) (kRem (((kRemL (p1 / 1000) 1000).toInt32) / 10) 10) (kRem ((kRemL (p1 / 1000) 1000).toInt32) 10) from hF22).symm
        have hF23 : s_X7_does_tr F16 F17 (((kRemL (p1 / 1000) 1000).toInt32) / 100) (kRem (((kRemL (p1 / 1000) 1000).toInt32) / 10) 10) (kRem ((kRemL (p1 / 1000) 1000).toInt32) 10) = F23 := (show F23 = s_X7_does_tr F16 F17 (((kRemL (p1 / 1000) 1000).toInt32) / 100) (kRem (((kRemL (p1 / 1000) 1000).toInt32) / 10) 10) (kRem ((kRemL (p1 / 1000) 1000).toInt32) 10) from hF23).symm
        have hP38 : va_P G.1 vwCl ([(h0, .inr (7, cM F22 q1 q2 q3 q4 q5 q6 q7 q8 q9 q10 q11 sd)), (q4, .inl (G.2.1, 55, .inl pg)), (q5, .inl (G.2.1, 55, .inl F23))]) H37 := hP37
        have hD39 : va_D A ([(h0, .inr (7, cM F22 q1 q2 q3 q4 q5 q6 q7 q8 q9 q10 q11 sd)), (q4, .inl (G.2.1, 55, .inl pg)), (q5, .inl (G.2.1, 55, .inl F23))]) := hD37
        refine lv_if_ne (x := r21) (tgt := 99) hx hb dX7_judge_93 (by decide) (fun (c24 : ¬ (r21 = 0)) => ?_) (fun (c24 : r21 = 0) => ?_)
        · skip
          refine lv_iinc (v := 3) (lv' := [(4, .int 3), (5, .int ((kRemL (p1 / 1000) 1000).toInt32)), (0, .ref h0), (1, .int 4), (2, .long p1)]) hx hb dX7_judge_99 hl36 (k := 1) rfl (by decide +kernel) (by decide) rfl (fun ls40 hl40 => ?_)
          refine lv_goto (tgt := 44) hx hb dX7_judge_102 (by decide) ?_
          refine lv_iload hx hb dX7_judge_44 (lv_at hl40 0 rfl) ?_
          refine lv_iload_n hx hb dX7_judge_46 rfl (lv_at hl40 3 rfl) ?_
          refine lv_icmp_ge (x := 3) (y := 4) (tgt := 105) hx hb dX7_judge_47 (by decide) (fun (c25 : 4 ≤ 3) => absurd c25 (by decide)) (fun (c25 : ¬ (4 ≤ 3)) => ?_)
          refine lv_lload_n hx hb dX7_judge_50 rfl (lv_at hl40 4 rfl) ?_
          refine lv_ldc2 (v := 1000) hx hb hown (ht _ q_907) dX7_judge_51 ?_
          refine lv_iload_n hx hb dX7_judge_54 rfl (lv_at hl40 3 rfl) ?_
          refine lv_iconst (v := 1) hx hb dX7_judge_55 (by decide) ?_
          refine lv_isub hx hb dX7_judge_56 ?_
          refine k_top (y := 3) (by decide +kernel) ?_
          refine lv_iload hx hb dX7_judge_57 (lv_at hl40 0 rfl) ?_
          refine lv_isub hx hb dX7_judge_59 ?_
          refine k_top (y := 0) (by decide +kernel) ?_
          refine k_calll (kRunS (As := [.long 1000, .int 0]) (rest := [.long p1]) kx (c_X7_longPower_0 l G ) q_910 q_908 q_36 q_909 nX7_longPower ⟨Nat.le_of_ble_eq_true rfl, Nat.le_of_ble_eq_true rfl⟩ hK hP38 hD39 (kCtx_nil _) rfl hl40.1 (Nat.le_of_ble_eq_true rfl) dX7_judge_60 ⟨Nat.zero_le _, Nat.zero_le _⟩) hP38 hD39 hS37 hA (kCtx_nil _) (fun _ => rfl) (fun r26 _ H41 locs41 hw hP41 hD41 hS41 => ?_)
          have hr26 : 1 = r26 := (show r26 = 1 from hw).symm
          subst hr26
          have hP42 : va_P G.1 vwCl ([(h0, .inr (7, cM F22 q1 q2 q3 q4 q5 q6 q7 q8 q9 q10 q11 sd)), (q4, .inl (G.2.1, 55, .inl pg)), (q5, .inl (G.2.1, 55, .inl F23))]) H41 := hP41
          have hD43 : va_D A ([(h0, .inr (7, cM F22 q1 q2 q3 q4 q5 q6 q7 q8 q9 q10 q11 sd)), (q4, .inl (G.2.1, 55, .inl pg)), (q5, .inl (G.2.1, 55, .inl F23))]) := hD41
          refine lv_ldiv hx hb dX7_judge_63 (by decide) ?_
          refine lv_ldc2 (v := 1000) hx hb hown (ht _ q_907) dX7_judge_64 ?_
          refine lv_lrem hx hb dX7_judge_67 (by decide) ?_
          refine k_topl (y := kRemL (p1 / 1) 1000) rfl ?_
          refine lv_l2i (v := (kRemL (p1 / 1) 1000).toInt32) hx hb dX7_judge_68 rfl ?_
          refine lv_istore (lv' := [(5, .int ((kRemL (p1 / 1) 1000).toInt32)), (4, .int 3), (0, .ref h0), (1, .int 4), (2, .long p1)]) hx hb dX7_judge_69 hl40 (by decide) rfl (fun ls44 hl44 => ?_)
          refine lv_aload_n hx hb dX7_judge_71 rfl (lv_at hl44 2 rfl) ?_
          refine lv_iload hx hb dX7_judge_72 (lv_at hl44 0 rfl) ?_
          refine lv_bipush (v := 100) hx hb dX7_judge_74 (by decide) ?_
          refine lv_idiv hx hb dX7_judge_76 (by decide) ?_
          refine lv_iload hx hb dX7_judge_77 (lv_at hl44 0 rfl) ?_
          refine lv_bipush (v := 10) hx hb dX7_judge_79 (by decide) ?_
          refine lv_idiv hx hb dX7_judge_81 (by decide) ?_
          refine lv_bipush (v := 10) hx hb dX7_judge_82 (by decide) ?_
          refine lv_irem hx hb dX7_judge_84 (by decide) ?_
          refine k_top (y := kRem (((kRemL (p1 / 1) 1000).toInt32) / 10) 10) rfl ?_
          refine lv_iload hx hb dX7_judge_85 (lv_at hl44 0 rfl) ?_
          refine lv_bipush (v := 10) hx hb dX7_judge_87 (by decide) ?_
          refine lv_irem hx hb dX7_judge_89 (by decide) ?_
          refine k_top (y := kRem ((kRemL (p1 / 1) 1000).toInt32) 10) rfl ?_
          refine k_calli (kRunV (As := [.int (((kRemL (p1 / 1) 1000).toInt32) / 100), .int (kRem (((kRemL (p1 / 1) 1000).toInt32) / 10) 10), .int (kRem ((kRemL (p1 / 1) 1000).toInt32) 10)]) (rest := []) kx (c_X7_does l G F22 sd h0 q1 q2 q3 q4 q5 q6 q7 q8 q9 q10 q11 F23 (((kRemL (p1 / 1) 1000).toInt32) / 100) (kRem (((kRemL (p1 / 1) 1000).toInt32) / 10) 10) (kRem ((kRemL (p1 / 1) 1000).toInt32) 10)) q_914 q_911 q_36 q_913 q_25 nX7_does ⟨Nat.le_of_ble_eq_true rfl, Nat.le_of_ble_eq_true rfl⟩ hK hP42 hD43 (kCtx_places _ _ [0, 2] rfl rfl) 0 7 rfl rfl rfl rfl hl44.1 (Nat.le_of_ble_eq_true rfl) dX7_judge_90 ⟨Nat.zero_le _, Nat.zero_le _⟩) hP42 hD43 hS41 hA (kCtx_places _ _ [0, 2] rfl rfl) (fun _ => rfl) (fun r27 u H45 locs45 hw hP45 hD45 hS45 => ?_)
          obtain ⟨F28, F29⟩ := u
          obtain ⟨hr27, hF28, hF29⟩ := hw
          have hr27 : r_X7_does F23 (((kRemL (p1 / 1) 1000).toInt32) / 100) (kRem (((kRemL (p1 / 1) 1000).toInt32) / 10) 10) (kRem ((kRemL (p1 / 1) 1000).toInt32) 10) = r27 := (show r27 = r_X7_does F23 (((kRemL (p1 / 1) 1000).toInt32) / 100) (kRem (((kRemL (p1 / 1) 1000).toInt32) / 10) 10) (kRem ((kRemL (p1 / 1) 1000).toInt32) 10) from hr27).symm
          have hF28 : s_X7_does_Z F22 F23 (((kRemL (p1 / 1) 1000).toInt32) / 100) (kRem (((kRemL (p1 / 1) 1000).toInt32) / 10) 10) (kRem ((kRemL (p1 / 1) 1000).toInt32) 10) = F28 := (show F28 = s_X7_does_Z F22 F23 (((kRemL (p1 / 1) 1000).toInt32) / 100) (kRem (((kRemL (p1 / 1) 1000).toInt32) / 10) 10) (kRem ((kRemL (p1 / 1) 1000).toInt32) 10) from hF28).symm
          have hF29 : s_X7_does_tr F22 F23 (((kRemL (p1 / 1) 1000).toInt32) / 100) (kRem (((kRemL (p1 / 1) 1000).toInt32) / 10) 10) (kRem ((kRemL (p1 / 1) 1000).toInt32) 10) = F29 := (show F29 = s_X7_does_tr F22 F23 (((kRemL (p1 / 1) 1000).toInt32) / 100) (kRem (((kRemL (p1 / 1) 1000).toInt32) / 10) 10) (kRem ((kRemL (p1 / 1) 1000).toInt32) 10) from hF29).symm
          have hP46 : va_P G.1 vwCl ([(h0, .inr (7, cM F28 q1 q2 q3 q4 q5 q6 q7 q8 q9 q10 q11 sd)), (q4, .inl (G.2.1, 55, .inl pg)), (q5, .inl (G.2.1, 55, .inl F29))]) H45 := hP45
          have hD47 : va_D A ([(h0, .inr (7, cM F28 q1 q2 q3 q4 q5 q6 q7 q8 q9 q10 q11 sd)), (q4, .inl (G.2.1, 55, .inl pg)), (q5, .inl (G.2.1, 55, .inl F29))]) := hD45
          refine lv_if_ne (x := r27) (tgt := 99) hx hb dX7_judge_93 (by decide) (fun (c30 : ¬ (r27 = 0)) => ?_) (fun (c30 : r27 = 0) => ?_)
          · skip
            refine lv_iinc (v := 4) (lv' := [(4, .int 4), (5, .int ((kRemL (p1 / 1) 1000).toInt32)), (0, .ref h0), (1, .int 4), (2, .long p1)]) hx hb dX7_judge_99 hl44 (k := 1) rfl (by decide +kernel) (by decide) rfl (fun ls48 hl48 => ?_)
            refine lv_goto (tgt := 44) hx hb dX7_judge_102 (by decide) ?_
            refine lv_iload hx hb dX7_judge_44 (lv_at hl48 0 rfl) ?_
            refine lv_iload_n hx hb dX7_judge_46 rfl (lv_at hl48 3 rfl) ?_
            refine lv_icmp_ge (x := 4) (y := 4) (tgt := 105) hx hb dX7_judge_47 (by decide) (fun (c31 : 4 ≤ 4) => ?_) (fun (c31 : ¬ (4 ≤ 4)) => absurd (by decide) c31)
            refine lv_bipush (v := (-9)) hx hb dX7_judge_105 (by decide) ?_
            have er : r_X7_judge_4 Z pg tr p1 = (-9) := by rw [r_X7_judge_4]; (try rw [hr4]); (try rw [hF10]); (try rw [hF11]); (try rw [hr9]); (try rw [hF16]); (try rw [hF17]); (try rw [hr15]); (try rw [hF22]); (try rw [hF23]); (try rw [hr21]); (try rw [hF28]); (try rw [hF29]); (try rw [hr27]); rw [if_neg c5, if_neg c12, if_neg c18, if_neg c24, if_neg c30]
            have e0 : s_X7_judge_4_Z Z pg tr p1 = F28 := by rw [s_X7_judge_4_Z]; (try rw [hr4]); (try rw [hF10]); (try rw [hF11]); (try rw [hr9]); (try rw [hF16]); (try rw [hF17]); (try rw [hr15]); (try rw [hF22]); (try rw [hF23]); (try rw [hr21]); (try rw [hF28]); (try rw [hF29]); (try rw [hr27]); rw [if_neg c5, if_neg c12, if_neg c18, if_neg c24, if_neg c30]
            have e1 : s_X7_judge_4_tr Z pg tr p1 = F29 := by rw [s_X7_judge_4_tr]; (try rw [hr4]); (try rw [hF10]); (try rw [hF11]); (try rw [hr9]); (try rw [hF16]); (try rw [hF17]); (try rw [hr15]); (try rw [hF22]); (try rw [hF23]); (try rw [hr21]); (try rw [hF28]); (try rw [hF29]); (try rw [hr27]); rw [if_neg c5, if_neg c12, if_neg c18, if_neg c24, if_neg c30]
            exact k_iret kx hK hP46 hD47 hS45 (u := (F28, F29)) rfl ⟨er.symm, e0.symm, e1.symm⟩ dX7_judge_107
          · skip
            refine lv_iload hx hb dX7_judge_96 (lv_at hl44 1 rfl) ?_
            have er : r_X7_judge_4 Z pg tr p1 = 3 := by rw [r_X7_judge_4]; (try rw [hr4]); (try rw [hF10]); (try rw [hF11]); (try rw [hr9]); (try rw [hF16]); (try rw [hF17]); (try rw [hr15]); (try rw [hF22]); (try rw [hF23]); (try rw [hr21]); (try rw [hF28]); (try rw [hF29]); (try rw [hr27]); rw [if_neg c5, if_neg c12, if_neg c18, if_neg c24, if_pos c30]
            have e0 : s_X7_judge_4_Z Z pg tr p1 = F28 := by rw [s_X7_judge_4_Z]; (try rw [hr4]); (try rw [hF10]); (try rw [hF11]); (try rw [hr9]); (try rw [hF16]); (try rw [hF17]); (try rw [hr15]); (try rw [hF22]); (try rw [hF23]); (try rw [hr21]); (try rw [hF28]); (try rw [hF29]); (try rw [hr27]); rw [if_neg c5, if_neg c12, if_neg c18, if_neg c24, if_pos c30]
            have e1 : s_X7_judge_4_tr Z pg tr p1 = F29 := by rw [s_X7_judge_4_tr]; (try rw [hr4]); (try rw [hF10]); (try rw [hF11]); (try rw [hr9]); (try rw [hF16]); (try rw [hF17]); (try rw [hr15]); (try rw [hF22]); (try rw [hF23]); (try rw [hr21]); (try rw [hF28]); (try rw [hF29]); (try rw [hr27]); rw [if_neg c5, if_neg c12, if_neg c18, if_neg c24, if_pos c30]
            exact k_iret kx hK hP46 hD47 hS45 (u := (F28, F29)) rfl ⟨er.symm, e0.symm, e1.symm⟩ dX7_judge_98
        · skip
          refine lv_iload hx hb dX7_judge_96 (lv_at hl36 1 rfl) ?_
          have er : r_X7_judge_4 Z pg tr p1 = 2 := by rw [r_X7_judge_4]; (try rw [hr4]); (try rw [hF10]); (try rw [hF11]); (try rw [hr9]); (try rw [hF16]); (try rw [hF17]); (try rw [hr15]); (try rw [hF22]); (try rw [hF23]); (try rw [hr21]); rw [if_neg c5, if_neg c12, if_neg c18, if_pos c24]
          have e0 : s_X7_judge_4_Z Z pg tr p1 = F22 := by rw [s_X7_judge_4_Z]; (try rw [hr4]); (try rw [hF10]); (try rw [hF11]); (try rw [hr9]); (try rw [hF16]); (try rw [hF17]); (try rw [hr15]); (try rw [hF22]); (try rw [hF23]); (try rw [hr21]); rw [if_neg c5, if_neg c12, if_neg c18, if_pos c24]
          have e1 : s_X7_judge_4_tr Z pg tr p1 = F23 := by rw [s_X7_judge_4_tr]; (try rw [hr4]); (try rw [hF10]); (try rw [hF11]); (try rw [hr9]); (try rw [hF16]); (try rw [hF17]); (try rw [hr15]); (try rw [hF22]); (try rw [hF23]); (try rw [hr21]); rw [if_neg c5, if_neg c12, if_neg c18, if_pos c24]
          exact k_iret kx hK hP38 hD39 hS37 (u := (F22, F23)) rfl ⟨er.symm, e0.symm, e1.symm⟩ dX7_judge_98
      · skip
        refine lv_iload hx hb dX7_judge_96 (lv_at hl28 1 rfl) ?_
        have er : r_X7_judge_4 Z pg tr p1 = 1 := by rw [r_X7_judge_4]; (try rw [hr4]); (try rw [hF10]); (try rw [hF11]); (try rw [hr9]); (try rw [hF16]); (try rw [hF17]); (try rw [hr15]); rw [if_neg c5, if_neg c12, if_pos c18]
        have e0 : s_X7_judge_4_Z Z pg tr p1 = F16 := by rw [s_X7_judge_4_Z]; (try rw [hr4]); (try rw [hF10]); (try rw [hF11]); (try rw [hr9]); (try rw [hF16]); (try rw [hF17]); (try rw [hr15]); rw [if_neg c5, if_neg c12, if_pos c18]
        have e1 : s_X7_judge_4_tr Z pg tr p1 = F17 := by rw [s_X7_judge_4_tr]; (try rw [hr4]); (try rw [hF10]); (try rw [hF11]); (try rw [hr9]); (try rw [hF16]); (try rw [hF17]); (try rw [hr15]); rw [if_neg c5, if_neg c12, if_pos c18]
        exact k_iret kx hK hP30 hD31 hS29 (u := (F16, F17)) rfl ⟨er.symm, e0.symm, e1.symm⟩ dX7_judge_98
    · skip
      refine lv_iload hx hb dX7_judge_96 (lv_at hl20 1 rfl) ?_
      have er : r_X7_judge_4 Z pg tr p1 = 0 := by rw [r_X7_judge_4]; (try rw [hr4]); (try rw [hF10]); (try rw [hF11]); (try rw [hr9]); rw [if_neg c5, if_pos c12]
      have e0 : s_X7_judge_4_Z Z pg tr p1 = F10 := by rw [s_X7_judge_4_Z]; (try rw [hr4]); (try rw [hF10]); (try rw [hF11]); (try rw [hr9]); rw [if_neg c5, if_pos c12]
      have e1 : s_X7_judge_4_tr Z pg tr p1 = F11 := by rw [s_X7_judge_4_tr]; (try rw [hr4]); (try rw [hF10]); (try rw [hF11]); (try rw [hr9]); rw [if_neg c5, if_pos c12]
      exact k_iret kx hK hP22 hD23 hS21 (u := (F10, F11)) rfl ⟨er.symm, e0.symm, e1.symm⟩ dX7_judge_98
  · skip
    refine lv_bipush (v := (-2)) hx hb dX7_judge_34 (by decide) ?_
    have er : r_X7_judge_4 Z pg tr p1 = (-2) := by rw [r_X7_judge_4]; (try rw [hr4]); rw [if_pos c5]
    have e0 : s_X7_judge_4_Z Z pg tr p1 = upd Z 0 0 := by rw [s_X7_judge_4_Z]; (try rw [hr4]); rw [if_pos c5]
    have e1 : s_X7_judge_4_tr Z pg tr p1 = tr := by rw [s_X7_judge_4_tr]; (try rw [hr4]); rw [if_pos c5]
    exact k_iret kx hK hP11 hD12 hS10 (u := (upd Z 0 0, tr)) rfl ⟨er.symm, e0.symm, e1.symm⟩ dX7_judge_36

set_option maxHeartbeats 4000000 in
set_option maxRecDepth 100000 in
theorem c_X7_judge_x (l : Launch) (G : kG) (Z : Nat → Int32) (sd : Int64) (h0 : Nat) (q1 : Nat) (q2 : Nat) (q3 : Nat) (q4 : Nat) (q5 : Nat) (q6 : Nat) (q7 : Nat) (q8 : Nat) (q9 : Nat) (q10 : Nat) (q11 : Nat) (p0 : Int32) (p1 : Int64) (hx9 : r_X7_in p0.toInt64 1 4 = 0) : cG l G yX7_judge cX7_judge 6 (some .int) 1 [.ref h0, .int p0, .long p1] ([(h0, .inr (7, cM Z q1 q2 q3 q4 q5 q6 q7 q8 q9 q10 q11 sd))]) (qI G (fun (r : Int32) (_ : Unit) => r = (-2)) (fun _ => [(h0, .inr (7, cM (upd Z 0 0) q1 q2 q3 q4 q5 q6 q7 q8 q9 q10 q11 sd))])) := by
  refine kintro (by decide) (Nat.le_of_ble_eq_true rfl) ?_
  intro p e s m args below meth c A ls kx hK hP hD hS hA hl
  have kx : kX p s m args meth c cX7_judge 6 (some .int) RX7 := kx
  have hx := kx.1
  have hb := kx.2.1
  have hown := kx.2.2.2.2.1
  have ht := kx.2.2.2.2.2.2
  have hl : lv_has ls 6 [(0, .ref h0), (1, .int p0), (2, .long p1)] := hl
  refine lv_aload_n hx hb dX7_judge_0 rfl (lv_at hl 0 rfl) ?_
  refine lv_iconst (v := 0) hx hb dX7_judge_1 (by decide) ?_
  refine va_put (ci := 7) (v := .int 0) (ty := .int) (C := RX7) (T := TX7) (N := 22) hx hb ht inX7 tyX7 tyX7_ok nmX7 hown hK.1 hP hD hS 0 rfl rfl 0 (by decide) (ht _ q_666) (fun _ h9 => h9) rfl (by decide +kernel) rfl rfl (Nat.le_of_ble_eq_true rfl) dX7_judge_2 (fun H1 locs1 hP1 hD1 hS1 => ?_)
  have hP2 : va_P G.1 vwCl ([(h0, .inr (7, cM (upd Z 0 0) q1 q2 q3 q4 q5 q6 q7 q8 q9 q10 q11 sd))]) H1 := hP1
  have hD3 : va_D A ([(h0, .inr (7, cM (upd Z 0 0) q1 q2 q3 q4 q5 q6 q7 q8 q9 q10 q11 sd))]) := hD1
  refine lv_iload_n hx hb dX7_judge_5 rfl (lv_at hl 1 rfl) ?_
  refine lv_i2l (v := p0.toInt64) hx hb dX7_judge_6 rfl ?_
  refine lv_lconst (v := 1) hx hb dX7_judge_7 (by decide) ?_
  refine lv_ldc2 (v := 4) hx hb hown (ht _ q_842) dX7_judge_8 ?_
  refine k_calli (kRunS (As := [.long p0.toInt64, .long 1, .long 4]) (rest := []) kx (c_X7_in l G p0.toInt64 1 4) q_740 q_738 q_36 q_739 nX7_in ⟨Nat.le_of_ble_eq_true rfl, Nat.le_of_ble_eq_true rfl⟩ hK hP2 hD3 (kCtx_nil _) rfl hl.1 (Nat.le_of_ble_eq_true rfl) dX7_judge_11 ⟨Nat.zero_le _, Nat.zero_le _⟩) hP2 hD3 hS1 hA (kCtx_nil _) (fun _ => rfl) (fun r1 _ H4 locs4 hw hP4 hD4 hS4 => ?_)
  have hr1 : r_X7_in p0.toInt64 1 4 = r1 := (show r1 = r_X7_in p0.toInt64 1 4 from hw).symm
  have hP5 : va_P G.1 vwCl ([(h0, .inr (7, cM (upd Z 0 0) q1 q2 q3 q4 q5 q6 q7 q8 q9 q10 q11 sd))]) H4 := hP4
  have hD6 : va_D A ([(h0, .inr (7, cM (upd Z 0 0) q1 q2 q3 q4 q5 q6 q7 q8 q9 q10 q11 sd))]) := hD4
  refine lv_if_eq (x := r1) (tgt := 34) hx hb dX7_judge_14 (by decide) (fun (c2 : r1 = 0) => ?_) (fun (c2 : ¬ (r1 = 0)) => absurd (hr1.symm.trans hx9) c2)
  refine lv_bipush (v := (-2)) hx hb dX7_judge_34 (by decide) ?_
  exact k_iret kx hK hP5 hD6 hS4 (u := ()) rfl rfl dX7_judge_36

def l_X7_drawn_1_r (pg : Nat → Int32) : Nat → Nat → (Nat → Int32) → (Nat → Int32) → Int64 → Int32
  | 0, j1, Z_1, tr_1, sd_1 => (tr_1 54) - (pg 54)
  | n1 + 1, j1, Z_1, tr_1, sd_1 => if kRem (((kUshrL ((sd_1 * 6364136223846793005) + 1442695040888963407) 33).toInt32) / 16) 2 = 0 then (if kRem ((kUshrL ((sd_1 * 6364136223846793005) + 1442695040888963407) 33).toInt32) 16 = 0 then (l_X7_drawn_1_r pg n1 (j1 + 1) (s_X7_tick_Z Z_1 (upd tr_1 32 ((tr_1 32) ^^^ 1))) (s_X7_tick_f Z_1 (upd tr_1 32 ((tr_1 32) ^^^ 1))) ((sd_1 * 6364136223846793005) + 1442695040888963407)) else l_X7_drawn_1_r pg n1 (j1 + 1) (s_X7_tick_Z Z_1 (upd tr_1 32 ((tr_1 32) ^^^ 0))) (s_X7_tick_f Z_1 (upd tr_1 32 ((tr_1 32) ^^^ 0))) ((sd_1 * 6364136223846793005) + 1442695040888963407)) else if kRem ((kUshrL ((sd_1 * 6364136223846793005) + 1442695040888963407) 33).toInt32) 16 = 0 then (l_X7_drawn_1_r pg n1 (j1 + 1) (s_X7_tick_Z Z_1 (upd tr_1 33 ((tr_1 33) ^^^ 1))) (s_X7_tick_f Z_1 (upd tr_1 33 ((tr_1 33) ^^^ 1))) ((sd_1 * 6364136223846793005) + 1442695040888963407)) else l_X7_drawn_1_r pg n1 (j1 + 1) (s_X7_tick_Z Z_1 (upd tr_1 33 ((tr_1 33) ^^^ 0))) (s_X7_tick_f Z_1 (upd tr_1 33 ((tr_1 33) ^^^ 0))) ((sd_1 * 6364136223846793005) + 1442695040888963407)
def r_X7_drawn (Z : Nat → Int32) (sd : Int64) (pg : Nat → Int32) (tr : Nat → Int32) (p0 : Int32) : Int32 := if (r_X7_in p0.toInt64 1 99) = 0 then (-2) else l_X7_drawn_1_r pg p0.toNatClampNeg 0 (upd (upd (upd (upd Z 0 0) 18 (-9)) 20 0) 21 6) (s_X7_lay_t pg tr) sd
def l_X7_drawn_1_Z : Nat → Nat → (Nat → Int32) → (Nat → Int32) → Int64 → Nat → Int32
  | 0, j1, Z_1, tr_1, sd_1 => Z_1
  | n1 + 1, j1, Z_1, tr_1, sd_1 => if kRem (((kUshrL ((sd_1 * 6364136223846793005) + 1442695040888963407) 33).toInt32) / 16) 2 = 0 then (if kRem ((kUshrL ((sd_1 * 6364136223846793005) + 1442695040888963407) 33).toInt32) 16 = 0 then (l_X7_drawn_1_Z n1 (j1 + 1) (s_X7_tick_Z Z_1 (upd tr_1 32 ((tr_1 32) ^^^ 1))) (s_X7_tick_f Z_1 (upd tr_1 32 ((tr_1 32) ^^^ 1))) ((sd_1 * 6364136223846793005) + 1442695040888963407)) else l_X7_drawn_1_Z n1 (j1 + 1) (s_X7_tick_Z Z_1 (upd tr_1 32 ((tr_1 32) ^^^ 0))) (s_X7_tick_f Z_1 (upd tr_1 32 ((tr_1 32) ^^^ 0))) ((sd_1 * 6364136223846793005) + 1442695040888963407)) else if kRem ((kUshrL ((sd_1 * 6364136223846793005) + 1442695040888963407) 33).toInt32) 16 = 0 then (l_X7_drawn_1_Z n1 (j1 + 1) (s_X7_tick_Z Z_1 (upd tr_1 33 ((tr_1 33) ^^^ 1))) (s_X7_tick_f Z_1 (upd tr_1 33 ((tr_1 33) ^^^ 1))) ((sd_1 * 6364136223846793005) + 1442695040888963407)) else l_X7_drawn_1_Z n1 (j1 + 1) (s_X7_tick_Z Z_1 (upd tr_1 33 ((tr_1 33) ^^^ 0))) (s_X7_tick_f Z_1 (upd tr_1 33 ((tr_1 33) ^^^ 0))) ((sd_1 * 6364136223846793005) + 1442695040888963407)
def s_X7_drawn_Z (Z : Nat → Int32) (sd : Int64) (pg : Nat → Int32) (tr : Nat → Int32) (p0 : Int32) : Nat → Int32 := if (r_X7_in p0.toInt64 1 99) = 0 then (upd Z 0 0) else l_X7_drawn_1_Z p0.toNatClampNeg 0 (upd (upd (upd (upd Z 0 0) 18 (-9)) 20 0) 21 6) (s_X7_lay_t pg tr) sd
def l_X7_drawn_1_tr : Nat → Nat → (Nat → Int32) → (Nat → Int32) → Int64 → Nat → Int32
  | 0, j1, Z_1, tr_1, sd_1 => tr_1
  | n1 + 1, j1, Z_1, tr_1, sd_1 => if kRem (((kUshrL ((sd_1 * 6364136223846793005) + 1442695040888963407) 33).toInt32) / 16) 2 = 0 then (if kRem ((kUshrL ((sd_1 * 6364136223846793005) + 1442695040888963407) 33).toInt32) 16 = 0 then (l_X7_drawn_1_tr n1 (j1 + 1) (s_X7_tick_Z Z_1 (upd tr_1 32 ((tr_1 32) ^^^ 1))) (s_X7_tick_f Z_1 (upd tr_1 32 ((tr_1 32) ^^^ 1))) ((sd_1 * 6364136223846793005) + 1442695040888963407)) else l_X7_drawn_1_tr n1 (j1 + 1) (s_X7_tick_Z Z_1 (upd tr_1 32 ((tr_1 32) ^^^ 0))) (s_X7_tick_f Z_1 (upd tr_1 32 ((tr_1 32) ^^^ 0))) ((sd_1 * 6364136223846793005) + 1442695040888963407)) else if kRem ((kUshrL ((sd_1 * 6364136223846793005) + 1442695040888963407) 33).toInt32) 16 = 0 then (l_X7_drawn_1_tr n1 (j1 + 1) (s_X7_tick_Z Z_1 (upd tr_1 33 ((tr_1 33) ^^^ 1))) (s_X7_tick_f Z_1 (upd tr_1 33 ((tr_1 33) ^^^ 1))) ((sd_1 * 6364136223846793005) + 1442695040888963407)) else l_X7_drawn_1_tr n1 (j1 + 1) (s_X7_tick_Z Z_1 (upd tr_1 33 ((tr_1 33) ^^^ 0))) (s_X7_tick_f Z_1 (upd tr_1 33 ((tr_1 33) ^^^ 0))) ((sd_1 * 6364136223846793005) + 1442695040888963407)
def s_X7_drawn_tr (Z : Nat → Int32) (sd : Int64) (pg : Nat → Int32) (tr : Nat → Int32) (p0 : Int32) : Nat → Int32 := if (r_X7_in p0.toInt64 1 99) = 0 then tr else l_X7_drawn_1_tr p0.toNatClampNeg 0 (upd (upd (upd (upd Z 0 0) 18 (-9)) 20 0) 21 6) (s_X7_lay_t pg tr) sd
def l_X7_drawn_1_sd : Nat → Nat → (Nat → Int32) → (Nat → Int32) → Int64 → Int64
  | 0, j1, Z_1, tr_1, sd_1 => sd_1
  | n1 + 1, j1, Z_1, tr_1, sd_1 => if kRem (((kUshrL ((sd_1 * 6364136223846793005) + 1442695040888963407) 33).toInt32) / 16) 2 = 0 then (if kRem ((kUshrL ((sd_1 * 6364136223846793005) + 1442695040888963407) 33).toInt32) 16 = 0 then (l_X7_drawn_1_sd n1 (j1 + 1) (s_X7_tick_Z Z_1 (upd tr_1 32 ((tr_1 32) ^^^ 1))) (s_X7_tick_f Z_1 (upd tr_1 32 ((tr_1 32) ^^^ 1))) ((sd_1 * 6364136223846793005) + 1442695040888963407)) else l_X7_drawn_1_sd n1 (j1 + 1) (s_X7_tick_Z Z_1 (upd tr_1 32 ((tr_1 32) ^^^ 0))) (s_X7_tick_f Z_1 (upd tr_1 32 ((tr_1 32) ^^^ 0))) ((sd_1 * 6364136223846793005) + 1442695040888963407)) else if kRem ((kUshrL ((sd_1 * 6364136223846793005) + 1442695040888963407) 33).toInt32) 16 = 0 then (l_X7_drawn_1_sd n1 (j1 + 1) (s_X7_tick_Z Z_1 (upd tr_1 33 ((tr_1 33) ^^^ 1))) (s_X7_tick_f Z_1 (upd tr_1 33 ((tr_1 33) ^^^ 1))) ((sd_1 * 6364136223846793005) + 1442695040888963407)) else l_X7_drawn_1_sd n1 (j1 + 1) (s_X7_tick_Z Z_1 (upd tr_1 33 ((tr_1 33) ^^^ 0))) (s_X7_tick_f Z_1 (upd tr_1 33 ((tr_1 33) ^^^ 0))) ((sd_1 * 6364136223846793005) + 1442695040888963407)
def s_X7_drawn_sd (Z : Nat → Int32) (sd : Int64) (pg : Nat → Int32) (tr : Nat → Int32) (p0 : Int32) : Int64 := if (r_X7_in p0.toInt64 1 99) = 0 then sd else l_X7_drawn_1_sd p0.toNatClampNeg 0 (upd (upd (upd (upd Z 0 0) 18 (-9)) 20 0) 21 6) (s_X7_lay_t pg tr) sd
set_option maxHeartbeats 4000000 in
set_option maxRecDepth 100000 in
theorem c_X7_drawn (l : Launch) (G : kG) (Z : Nat → Int32) (sd : Int64) (h0 : Nat) (q1 : Nat) (q2 : Nat) (q3 : Nat) (q4 : Nat) (q5 : Nat) (q6 : Nat) (q7 : Nat) (q8 : Nat) (q9 : Nat) (q10 : Nat) (q11 : Nat) (pg : Nat → Int32) (tr : Nat → Int32) (p0 : Int32) : cG l G yX7_drawn cX7_drawn 4 (some .int) 5 [.ref h0, .int p0] ([(h0, .inr (7, cM Z q1 q2 q3 q4 q5 q6 q7 q8 q9 q10 q11 sd)), (q4, .inl (G.2.1, 55, .inl pg)), (q5, .inl (G.2.1, 55, .inl tr))]) (qI G (fun (r : Int32) (u : ((Nat → Int32) × (Nat → Int32) × Int64)) => r = r_X7_drawn Z sd pg tr p0 ∧ u.1 = s_X7_drawn_Z Z sd pg tr p0 ∧ u.2.1 = s_X7_drawn_tr Z sd pg tr p0 ∧ u.2.2 = s_X7_drawn_sd Z sd pg tr p0) (fun u => [(h0, .inr (7, cM u.1 q1 q2 q3 q4 q5 q6 q7 q8 q9 q10 q11 u.2.2)), (q4, .inl (G.2.1, 55, .inl pg)), (q5, .inl (G.2.1, 55, .inl u.2.1))])) := by
  refine kintro (by decide) (Nat.le_of_ble_eq_true rfl) ?_
  intro p e s m args below meth c A ls kx hK hP hD hS hA hl
  have kx : kX p s m args meth c cX7_drawn 4 (some .int) RX7 := kx
  have hx := kx.1
  have hb := kx.2.1
  have hown := kx.2.2.2.2.1
  have ht := kx.2.2.2.2.2.2
  have hl : lv_has ls 4 [(0, .ref h0), (1, .int p0)] := hl
  refine lv_aload_n hx hb dX7_drawn_0 rfl (lv_at hl 0 rfl) ?_
  refine lv_iconst (v := 0) hx hb dX7_drawn_1 (by decide) ?_
  refine va_put (ci := 7) (v := .int 0) (ty := .int) (C := RX7) (T := TX7) (N := 22) hx hb ht inX7 tyX7 tyX7_ok nmX7 hown hK.1 hP hD hS 0 rfl rfl 0 (by decide) (ht _ q_666) (fun _ h9 => h9) rfl (by decide +kernel) rfl rfl (Nat.le_of_ble_eq_true rfl) dX7_drawn_2 (fun H1 locs1 hP1 hD1 hS1 => ?_)
  have hP2 : va_P G.1 vwCl ([(h0, .inr (7, cM (upd Z 0 0) q1 q2 q3 q4 q5 q6 q7 q8 q9 q10 q11 sd)), (q4, .inl (G.2.1, 55, .inl pg)), (q5, .inl (G.2.1, 55, .inl tr))]) H1 := hP1
  have hD3 : va_D A ([(h0, .inr (7, cM (upd Z 0 0) q1 q2 q3 q4 q5 q6 q7 q8 q9 q10 q11 sd)), (q4, .inl (G.2.1, 55, .inl pg)), (q5, .inl (G.2.1, 55, .inl tr))]) := hD1
  refine lv_iload_n hx hb dX7_drawn_5 rfl (lv_at hl 1 rfl) ?_
  refine lv_i2l (v := p0.toInt64) hx hb dX7_drawn_6 rfl ?_
  refine lv_lconst (v := 1) hx hb dX7_drawn_7 (by decide) ?_
  refine lv_ldc2 (v := 99) hx hb hown (ht _ q_897) dX7_drawn_8 ?_
  refine k_calli (kRunS (As := [.long p0.toInt64, .long 1, .long 99]) (rest := []) kx (c_X7_in l G p0.toInt64 1 99) q_740 q_738 q_36 q_739 nX7_in ⟨Nat.le_of_ble_eq_true rfl, Nat.le_of_ble_eq_true rfl⟩ hK hP2 hD3 (kCtx_nil _) rfl hl.1 (Nat.le_of_ble_eq_true rfl) dX7_drawn_11 ⟨Nat.zero_le _, Nat.zero_le _⟩) hP2 hD3 hS1 hA (kCtx_nil _) (fun _ => rfl) (fun r1 _ H4 locs4 hw hP4 hD4 hS4 => ?_)
  have hr1 : r_X7_in p0.toInt64 1 99 = r1 := (show r1 = r_X7_in p0.toInt64 1 99 from hw).symm
  have hP5 : va_P G.1 vwCl ([(h0, .inr (7, cM (upd Z 0 0) q1 q2 q3 q4 q5 q6 q7 q8 q9 q10 q11 sd)), (q4, .inl (G.2.1, 55, .inl pg)), (q5, .inl (G.2.1, 55, .inl tr))]) H4 := hP4
  have hD6 : va_D A ([(h0, .inr (7, cM (upd Z 0 0) q1 q2 q3 q4 q5 q6 q7 q8 q9 q10 q11 sd)), (q4, .inl (G.2.1, 55, .inl pg)), (q5, .inl (G.2.1, 55, .inl tr))]) := hD4
  refine lv_if_ne (x := r1) (tgt := 20) hx hb dX7_drawn_14 (by decide) (fun (c2 : ¬ (r1 = 0)) => ?_) (fun (c2 : r1 = 0) => ?_)
  · skip
    obtain ⟨nnc2, nmc2⟩ := kin_of (x := p0) (a := 1) (N := 99) (by rw [hr1]; exact c2) (by decide) (by decide)
    refine lv_aload_n hx hb dX7_drawn_20 rfl (lv_at hl 0 rfl) ?_
    refine k_callv (kRunV (As := []) (rest := []) kx (c_X7_layTrial l G (upd Z 0 0) sd h0 q1 q2 q3 q4 q5 q6 q7 q8 q9 q10 q11 pg tr) q_774 q_771 q_36 q_773 q_16 nX7_layTrial ⟨Nat.le_of_ble_eq_true rfl, Nat.le_of_ble_eq_true rfl⟩ hK hP5 hD6 (kCtx_all _) 0 7 rfl rfl rfl rfl hl.1 (Nat.le_of_ble_eq_true rfl) dX7_drawn_21 ⟨Nat.zero_le _, Nat.zero_le _⟩) hP5 hD6 hS4 hA (kCtx_all _) (fun _ => rfl) (fun _ H7 locs7 hw hP7 hD7 hS7 => ?_)
    have hP8 : va_P G.1 vwCl ([(h0, .inr (7, cM (upd (upd (upd (upd Z 0 0) 18 (-9)) 20 0) 21 6) q1 q2 q3 q4 q5 q6 q7 q8 q9 q10 q11 sd)), (q4, .inl (G.2.1, 55, .inl pg)), (q5, .inl (G.2.1, 55, .inl (s_X7_lay_t pg tr)))]) H7 := hP7
    have hD9 : va_D A ([(h0, .inr (7, cM (upd (upd (upd (upd Z 0 0) 18 (-9)) 20 0) 21 6) q1 q2 q3 q4 q5 q6 q7 q8 q9 q10 q11 sd)), (q4, .inl (G.2.1, 55, .inl pg)), (q5, .inl (G.2.1, 55, .inl (s_X7_lay_t pg tr)))]) := hD7
    refine lv_iconst (v := 0) hx hb dX7_drawn_24 (by decide) ?_
    refine lv_istore_n (lv' := [(2, .int 0), (0, .ref h0), (1, .int p0)]) hx hb dX7_drawn_25 rfl hl (by decide) rfl (fun ls10 hl10 => ?_)
    subst hr1
    have lp1 : ∀ (n1 j1 : Nat) (Z_1 : Nat → Int32) (tr_1 : Nat → Int32) (sd_1 : Int64), j1 + n1 = p0.toNatClampNeg → (hr_1 : r_X7_drawn Z sd pg tr p0 = l_X7_drawn_1_r pg n1 j1 Z_1 tr_1 sd_1) → (hZ_1 : s_X7_drawn_Z Z sd pg tr p0 = l_X7_drawn_1_Z n1 j1 Z_1 tr_1 sd_1) → (htr_1 : s_X7_drawn_tr Z sd pg tr p0 = l_X7_drawn_1_tr n1 j1 Z_1 tr_1 sd_1) → (hsd_1 : s_X7_drawn_sd Z sd pg tr p0 = l_X7_drawn_1_sd n1 j1 Z_1 tr_1 sd_1) → ∀ (H : Heap) (locs : List Loc) (ls : Array Slot), va_P G.1 vwCl ([(h0, .inr (7, cM Z_1 q1 q2 q3 q4 q5 q6 q7 q8 q9 q10 q11 sd_1)), (q4, .inl (G.2.1, 55, .inl pg)), (q5, .inl (G.2.1, 55, .inl tr_1))]) H → va_D A ([(h0, .inr (7, cM Z_1 q1 q2 q3 q4 q5 q6 q7 q8 q9 q10 q11 sd_1)), (q4, .inl (G.2.1, 55, .inl pg)), (q5, .inl (G.2.1, 55, .inl tr_1))]) → va_S A s.heap H locs → lv_has ls 4 [(0, .ref h0), (1, .int p0), (2, .int (nI j1))] → W p l e (kr 5) s m args below meth c H locs 0 0 (MQ below (qI G (fun (r : Int32) (u : ((Nat → Int32) × (Nat → Int32) × Int64)) => r = r_X7_drawn Z sd pg tr p0 ∧ u.1 = s_X7_drawn_Z Z sd pg tr p0 ∧ u.2.1 = s_X7_drawn_tr Z sd pg tr p0 ∧ u.2.2 = s_X7_drawn_sd Z sd pg tr p0) (fun u => [(h0, .inr (7, cM u.1 q1 q2 q3 q4 q5 q6 q7 q8 q9 q10 q11 u.2.2)), (q4, .inl (G.2.1, 55, .inl pg)), (q5, .inl (G.2.1, 55, .inl u.2.1))]) A) args s 0 0 A) (F0 m 26 ls []) := by
      intro n1
      induction n1 with
      | zero =>
        intro j1 Z_1 tr_1 sd_1 hj1 hr_1 hZ_1 htr_1 hsd_1 H11 locs11 ls11 hP11 hD11 hS11 hl11
        refine lv_iload_n hx hb dX7_drawn_26 rfl (lv_at hl11 2 rfl) ?_
        refine lv_iload_n hx hb dX7_drawn_27 rfl (lv_at hl11 1 rfl) ?_
        refine lv_icmp_ge (x := nI j1) (y := p0) (tgt := 99) hx hb dX7_drawn_28 (by decide) (fun (c4 : p0 ≤ nI j1) => ?_) (fun (c4 : ¬ (p0 ≤ nI j1)) => absurd (krun_z hj1) c4)
        refine lv_aload_n hx hb dX7_drawn_99 rfl (lv_at hl11 0 rfl) ?_
        refine va_get (ci := 7) (v := .ref q5) (C := RX7) (T := TX7) (N := 22) hx hb ht inX7 hown hK.1 hP11 0 rfl rfl 8 (by decide) (ht _ q_674) (fun _ h9 => h9) rfl dX7_drawn_100 ?_
        refine lv_bipush (v := 54) hx hb dX7_drawn_103 (by decide) ?_
        refine k_iald (v := (tr_1 54)) kx hK hP11 2 rfl 54 rfl (by decide) (by decide) rfl dX7_drawn_105 ?_
        refine lv_aload_n hx hb dX7_drawn_106 rfl (lv_at hl11 0 rfl) ?_
        refine va_get (ci := 7) (v := .ref q4) (C := RX7) (T := TX7) (N := 22) hx hb ht inX7 hown hK.1 hP11 0 rfl rfl 7 (by decide) (ht _ q_673) (fun _ h9 => h9) rfl dX7_drawn_107 ?_
        refine lv_bipush (v := 54) hx hb dX7_drawn_110 (by decide) ?_
        refine k_iald (v := (pg 54)) kx hK hP11 1 rfl 54 rfl (by decide) (by decide) rfl dX7_drawn_112 ?_
        refine lv_isub hx hb dX7_drawn_113 ?_
        have er : r_X7_drawn Z sd pg tr p0 = (tr_1 54) - (pg 54) := by rw [hr_1, l_X7_drawn_1_r]
        have e0 : s_X7_drawn_Z Z sd pg tr p0 = Z_1 := by rw [hZ_1, l_X7_drawn_1_Z]
        have e1 : s_X7_drawn_tr Z sd pg tr p0 = tr_1 := by rw [htr_1, l_X7_drawn_1_tr]
        have e2 : s_X7_drawn_sd Z sd pg tr p0 = sd_1 := by rw [hsd_1, l_X7_drawn_1_sd]
        exact k_iret kx hK hP11 hD11 hS11 (u := (Z_1, tr_1, sd_1)) rfl ⟨er.symm, e0.symm, e1.symm, e2.symm⟩ dX7_drawn_114
      | succ n1 ih1 =>
        intro j1 Z_1 tr_1 sd_1 hj1 hr_1 hZ_1 htr_1 hsd_1 H11 locs11 ls11 hP11 hD11 hS11 hl11
        refine lv_iload_n hx hb dX7_drawn_26 rfl (lv_at hl11 2 rfl) ?_
        refine lv_iload_n hx hb dX7_drawn_27 rfl (lv_at hl11 1 rfl) ?_
        refine lv_icmp_ge (x := nI j1) (y := p0) (tgt := 99) hx hb dX7_drawn_28 (by decide) (fun (c5 : p0 ≤ nI j1) => absurd c5 (krun_s hj1)) (fun (c5 : ¬ (p0 ≤ nI j1)) => ?_)
        refine lv_aload_n hx hb dX7_drawn_31 rfl (lv_at hl11 0 rfl) ?_
        refine lv_aload_n hx hb dX7_drawn_32 rfl (lv_at hl11 0 rfl) ?_
        refine va_get (ci := 7) (v := .long sd_1) (C := RX7) (T := TX7) (N := 22) hx hb ht inX7 hown hK.1 hP11 0 rfl rfl 17 (by decide) (ht _ q_683) (fun _ h9 => h9) rfl dX7_drawn_33 ?_
        refine lv_ldc2 (v := 6364136223846793005) hx hb hown (ht _ q_968) dX7_drawn_36 ?_
        refine lv_lmul hx hb dX7_drawn_39 ?_
        refine lv_ldc2 (v := 1442695040888963407) hx hb hown (ht _ q_969) dX7_drawn_40 ?_
        refine lv_ladd hx hb dX7_drawn_43 ?_
        refine va_put (ci := 7) (v := .long ((sd_1 * 6364136223846793005) + 1442695040888963407)) (ty := .long) (C := RX7) (T := TX7) (N := 22) hx hb ht inX7 tyX7 tyX7_ok nmX7 hown hK.1 hP11 hD11 hS11 0 rfl rfl 17 (by decide) (ht _ q_683) (fun _ h9 => h9) rfl (by decide +kernel) rfl rfl (Nat.le_of_ble_eq_true rfl) dX7_drawn_44 (fun H12 locs12 hP12 hD12 hS12 => ?_)
        have hP13 : va_P G.1 vwCl ([(h0, .inr (7, cM Z_1 q1 q2 q3 q4 q5 q6 q7 q8 q9 q10 q11 ((sd_1 * 6364136223846793005) + 1442695040888963407))), (q4, .inl (G.2.1, 55, .inl pg)), (q5, .inl (G.2.1, 55, .inl tr_1))]) H12 := hP12
        have hD14 : va_D A ([(h0, .inr (7, cM Z_1 q1 q2 q3 q4 q5 q6 q7 q8 q9 q10 q11 ((sd_1 * 6364136223846793005) + 1442695040888963407))), (q4, .inl (G.2.1, 55, .inl pg)), (q5, .inl (G.2.1, 55, .inl tr_1))]) := hD12
        refine lv_aload_n hx hb dX7_drawn_47 rfl (lv_at hl11 0 rfl) ?_
        refine va_get (ci := 7) (v := .long ((sd_1 * 6364136223846793005) + 1442695040888963407)) (C := RX7) (T := TX7) (N := 22) hx hb ht inX7 hown hK.1 hP13 0 rfl rfl 17 (by decide) (ht _ q_683) (fun _ h9 => h9) rfl dX7_drawn_48 ?_
        refine lv_bipush (v := 33) hx hb dX7_drawn_51 (by decide) ?_
        refine lv_lushr (v := kUshrL ((sd_1 * 6364136223846793005) + 1442695040888963407) 33) hx hb dX7_drawn_53 rfl ?_
        refine lv_l2i (v := (kUshrL ((sd_1 * 6364136223846793005) + 1442695040888963407) 33).toInt32) hx hb dX7_drawn_54 rfl ?_
        refine lv_istore_n (lv' := [(3, .int ((kUshrL ((sd_1 * 6364136223846793005) + 1442695040888963407) 33).toInt32)), (0, .ref h0), (1, .int p0), (2, .int (nI j1))]) hx hb dX7_drawn_55 rfl hl11 (by decide) rfl (fun ls15 hl15 => ?_)
        refine lv_aload_n hx hb dX7_drawn_56 rfl (lv_at hl15 1 rfl) ?_
        refine va_get (ci := 7) (v := .ref q5) (C := RX7) (T := TX7) (N := 22) hx hb ht inX7 hown hK.1 hP13 0 rfl rfl 8 (by decide) (ht _ q_674) (fun _ h9 => h9) rfl dX7_drawn_57 ?_
        refine lv_bipush (v := 32) hx hb dX7_drawn_60 (by decide) ?_
        refine lv_iload_n hx hb dX7_drawn_62 rfl (lv_at hl15 0 rfl) ?_
        refine lv_bipush (v := 16) hx hb dX7_drawn_63 (by decide) ?_
        refine lv_idiv hx hb dX7_drawn_65 (by decide) ?_
        refine lv_iconst (v := 2) hx hb dX7_drawn_66 (by decide) ?_
        refine lv_irem hx hb dX7_drawn_67 (by decide) ?_
        refine k_top (y := kRem (((kUshrL ((sd_1 * 6364136223846793005) + 1442695040888963407) 33).toInt32) / 16) 2) rfl ?_
        by_cases c6 : kRem (((kUshrL ((sd_1 * 6364136223846793005) + 1442695040888963407) 33).toInt32) / 16) 2 = 0
        · skip
          refine k_top (y := 0) c6 ?_
          refine lv_iadd hx hb dX7_drawn_68 ?_
          refine k_top (y := 32) (by decide +kernel) ?_
          refine lv_dup2_11 hx hb dX7_drawn_69 rfl rfl ?_
          refine k_iald (v := (tr_1 32)) kx hK hP13 2 rfl 32 rfl (by decide) (by decide) rfl dX7_drawn_70 ?_
          refine lv_iload_n hx hb dX7_drawn_71 rfl (lv_at hl15 0 rfl) ?_
          refine lv_bipush (v := 16) hx hb dX7_drawn_72 (by decide) ?_
          refine lv_irem hx hb dX7_drawn_74 (by decide) ?_
          refine k_top (y := kRem ((kUshrL ((sd_1 * 6364136223846793005) + 1442695040888963407) 33).toInt32) 16) rfl ?_
          refine lv_if_ne (x := kRem ((kUshrL ((sd_1 * 6364136223846793005) + 1442695040888963407) 33).toInt32) 16) (tgt := 82) hx hb dX7_drawn_75 (by decide) (fun (c7 : ¬ (kRem ((kUshrL ((sd_1 * 6364136223846793005) + 1442695040888963407) 33).toInt32) 16 = 0)) => ?_) (fun (c7 : kRem ((kUshrL ((sd_1 * 6364136223846793005) + 1442695040888963407) 33).toInt32) 16 = 0) => ?_)
          · skip
            refine lv_iconst (v := 0) hx hb dX7_drawn_82 (by decide) ?_
            refine lv_ixor hx hb dX7_drawn_83 ?_
            refine k_iast kx hK hP13 hD14 hS12 2 rfl 32 rfl (by decide) (by decide) dX7_drawn_84 (fun H16 locs16 hP16 hD16 hS16 => ?_)
            have hP17 : va_P G.1 vwCl ([(h0, .inr (7, cM Z_1 q1 q2 q3 q4 q5 q6 q7 q8 q9 q10 q11 ((sd_1 * 6364136223846793005) + 1442695040888963407))), (q4, .inl (G.2.1, 55, .inl pg)), (q5, .inl (G.2.1, 55, .inl (upd tr_1 32 ((tr_1 32) ^^^ 0))))]) H16 := hP16
            have hD18 : va_D A ([(h0, .inr (7, cM Z_1 q1 q2 q3 q4 q5 q6 q7 q8 q9 q10 q11 ((sd_1 * 6364136223846793005) + 1442695040888963407))), (q4, .inl (G.2.1, 55, .inl pg)), (q5, .inl (G.2.1, 55, .inl (upd tr_1 32 ((tr_1 32) ^^^ 0))))]) := hD16
            refine lv_aload_n hx hb dX7_drawn_85 rfl (lv_at hl15 1 rfl) ?_
            refine lv_aload_n hx hb dX7_drawn_86 rfl (lv_at hl15 1 rfl) ?_
            refine va_get (ci := 7) (v := .ref q5) (C := RX7) (T := TX7) (N := 22) hx hb ht inX7 hown hK.1 hP17 0 rfl rfl 8 (by decide) (ht _ q_674) (fun _ h9 => h9) rfl dX7_drawn_87 ?_
            refine k_callv (kRunV (As := [.ref q5]) (rest := []) kx (c_X7_tick l G Z_1 ((sd_1 * 6364136223846793005) + 1442695040888963407) h0 q1 q2 q3 q4 q5 q6 q7 q8 q9 q10 q11 (upd tr_1 32 ((tr_1 32) ^^^ 0)) q5) q_782 q_779 q_36 q_781 q_18 nX7_tick ⟨Nat.le_of_ble_eq_true rfl, Nat.le_of_ble_eq_true rfl⟩ hK hP17 hD18 (kCtx_places _ _ [0, 2] rfl rfl) 0 7 rfl rfl rfl rfl hl15.1 (Nat.le_of_ble_eq_true rfl) dX7_drawn_90 ⟨Nat.zero_le _, Nat.zero_le _⟩) hP17 hD18 hS16 hA (kCtx_places _ _ [0, 2] rfl rfl) (fun _ => rfl) (fun u H19 locs19 hw hP19 hD19 hS19 => ?_)
            obtain ⟨F9, F10⟩ := u
            obtain ⟨hF9, hF10⟩ := hw
            have hF9 : s_X7_tick_Z Z_1 (upd tr_1 32 ((tr_1 32) ^^^ 0)) = F9 := (show F9 = s_X7_tick_Z Z_1 (upd tr_1 32 ((tr_1 32) ^^^ 0)) from hF9).symm
            have hF10 : s_X7_tick_f Z_1 (upd tr_1 32 ((tr_1 32) ^^^ 0)) = F10 := (show F10 = s_X7_tick_f Z_1 (upd tr_1 32 ((tr_1 32) ^^^ 0)) from hF10).symm
            have hP20 : va_P G.1 vwCl ([(h0, .inr (7, cM F9 q1 q2 q3 q4 q5 q6 q7 q8 q9 q10 q11 ((sd_1 * 6364136223846793005) + 1442695040888963407))), (q4, .inl (G.2.1, 55, .inl pg)), (q5, .inl (G.2.1, 55, .inl F10))]) H19 := hP19
            have hD21 : va_D A ([(h0, .inr (7, cM F9 q1 q2 q3 q4 q5 q6 q7 q8 q9 q10 q11 ((sd_1 * 6364136223846793005) + 1442695040888963407))), (q4, .inl (G.2.1, 55, .inl pg)), (q5, .inl (G.2.1, 55, .inl F10))]) := hD19
            refine lv_iinc (v := nI (j1 + 1)) (lv' := [(2, .int (nI (j1 + 1))), (3, .int ((kUshrL ((sd_1 * 6364136223846793005) + 1442695040888963407) 33).toInt32)), (0, .ref h0), (1, .int p0)]) hx hb dX7_drawn_93 hl15 (k := 3) rfl (nI_1 j1) (by decide) rfl (fun ls22 hl22 => ?_)
            refine lv_goto (tgt := 26) hx hb dX7_drawn_96 (by decide) ?_
            subst hF9
            subst hF10
            have gr : r_X7_drawn Z sd pg tr p0 = l_X7_drawn_1_r pg n1 (j1 + 1) (s_X7_tick_Z Z_1 (upd tr_1 32 ((tr_1 32) ^^^ 0))) (s_X7_tick_f Z_1 (upd tr_1 32 ((tr_1 32) ^^^ 0))) ((sd_1 * 6364136223846793005) + 1442695040888963407) := by rw [hr_1, l_X7_drawn_1_r, if_pos c6, if_neg c7]
            have gZ : s_X7_drawn_Z Z sd pg tr p0 = l_X7_drawn_1_Z n1 (j1 + 1) (s_X7_tick_Z Z_1 (upd tr_1 32 ((tr_1 32) ^^^ 0))) (s_X7_tick_f Z_1 (upd tr_1 32 ((tr_1 32) ^^^ 0))) ((sd_1 * 6364136223846793005) + 1442695040888963407) := by rw [hZ_1, l_X7_drawn_1_Z, if_pos c6, if_neg c7]
            have gtr : s_X7_drawn_tr Z sd pg tr p0 = l_X7_drawn_1_tr n1 (j1 + 1) (s_X7_tick_Z Z_1 (upd tr_1 32 ((tr_1 32) ^^^ 0))) (s_X7_tick_f Z_1 (upd tr_1 32 ((tr_1 32) ^^^ 0))) ((sd_1 * 6364136223846793005) + 1442695040888963407) := by rw [htr_1, l_X7_drawn_1_tr, if_pos c6, if_neg c7]
            have gsd : s_X7_drawn_sd Z sd pg tr p0 = l_X7_drawn_1_sd n1 (j1 + 1) (s_X7_tick_Z Z_1 (upd tr_1 32 ((tr_1 32) ^^^ 0))) (s_X7_tick_f Z_1 (upd tr_1 32 ((tr_1 32) ^^^ 0))) ((sd_1 * 6364136223846793005) + 1442695040888963407) := by rw [hsd_1, l_X7_drawn_1_sd, if_pos c6, if_neg c7]
            exact ih1 (j1 + 1) (s_X7_tick_Z Z_1 (upd tr_1 32 ((tr_1 32) ^^^ 0))) (s_X7_tick_f Z_1 (upd tr_1 32 ((tr_1 32) ^^^ 0))) ((sd_1 * 6364136223846793005) + 1442695040888963407) (by omega) gr gZ gtr gsd _ _ _ hP20 hD21 hS19 (lv_sub hl22 [2, 3, 0] rfl)
          · skip
            refine lv_iconst (v := 1) hx hb dX7_drawn_78 (by decide) ?_
            refine lv_goto (tgt := 83) hx hb dX7_drawn_79 (by decide) ?_
            refine lv_ixor hx hb dX7_drawn_83 ?_
            refine k_iast kx hK hP13 hD14 hS12 2 rfl 32 rfl (by decide) (by decide) dX7_drawn_84 (fun H23 locs23 hP23 hD23 hS23 => ?_)
            have hP24 : va_P G.1 vwCl ([(h0, .inr (7, cM Z_1 q1 q2 q3 q4 q5 q6 q7 q8 q9 q10 q11 ((sd_1 * 6364136223846793005) + 1442695040888963407))), (q4, .inl (G.2.1, 55, .inl pg)), (q5, .inl (G.2.1, 55, .inl (upd tr_1 32 ((tr_1 32) ^^^ 1))))]) H23 := hP23
            have hD25 : va_D A ([(h0, .inr (7, cM Z_1 q1 q2 q3 q4 q5 q6 q7 q8 q9 q10 q11 ((sd_1 * 6364136223846793005) + 1442695040888963407))), (q4, .inl (G.2.1, 55, .inl pg)), (q5, .inl (G.2.1, 55, .inl (upd tr_1 32 ((tr_1 32) ^^^ 1))))]) := hD23
            refine lv_aload_n hx hb dX7_drawn_85 rfl (lv_at hl15 1 rfl) ?_
            refine lv_aload_n hx hb dX7_drawn_86 rfl (lv_at hl15 1 rfl) ?_
            refine va_get (ci := 7) (v := .ref q5) (C := RX7) (T := TX7) (N := 22) hx hb ht inX7 hown hK.1 hP24 0 rfl rfl 8 (by decide) (ht _ q_674) (fun _ h9 => h9) rfl dX7_drawn_87 ?_
            refine k_callv (kRunV (As := [.ref q5]) (rest := []) kx (c_X7_tick l G Z_1 ((sd_1 * 6364136223846793005) + 1442695040888963407) h0 q1 q2 q3 q4 q5 q6 q7 q8 q9 q10 q11 (upd tr_1 32 ((tr_1 32) ^^^ 1)) q5) q_782 q_779 q_36 q_781 q_18 nX7_tick ⟨Nat.le_of_ble_eq_true rfl, Nat.le_of_ble_eq_true rfl⟩ hK hP24 hD25 (kCtx_places _ _ [0, 2] rfl rfl) 0 7 rfl rfl rfl rfl hl15.1 (Nat.le_of_ble_eq_true rfl) dX7_drawn_90 ⟨Nat.zero_le _, Nat.zero_le _⟩) hP24 hD25 hS23 hA (kCtx_places _ _ [0, 2] rfl rfl) (fun _ => rfl) (fun u H26 locs26 hw hP26 hD26 hS26 => ?_)
            obtain ⟨F12, F13⟩ := u
            obtain ⟨hF12, hF13⟩ := hw
            have hF12 : s_X7_tick_Z Z_1 (upd tr_1 32 ((tr_1 32) ^^^ 1)) = F12 := (show F12 = s_X7_tick_Z Z_1 (upd tr_1 32 ((tr_1 32) ^^^ 1)) from hF12).symm
            have hF13 : s_X7_tick_f Z_1 (upd tr_1 32 ((tr_1 32) ^^^ 1)) = F13 := (show F13 = s_X7_tick_f Z_1 (upd tr_1 32 ((tr_1 32) ^^^ 1)) from hF13).symm
            have hP27 : va_P G.1 vwCl ([(h0, .inr (7, cM F12 q1 q2 q3 q4 q5 q6 q7 q8 q9 q10 q11 ((sd_1 * 6364136223846793005) + 1442695040888963407))), (q4, .inl (G.2.1, 55, .inl pg)), (q5, .inl (G.2.1, 55, .inl F13))]) H26 := hP26
            have hD28 : va_D A ([(h0, .inr (7, cM F12 q1 q2 q3 q4 q5 q6 q7 q8 q9 q10 q11 ((sd_1 * 6364136223846793005) + 1442695040888963407))), (q4, .inl (G.2.1, 55, .inl pg)), (q5, .inl (G.2.1, 55, .inl F13))]) := hD26
            refine lv_iinc (v := nI (j1 + 1)) (lv' := [(2, .int (nI (j1 + 1))), (3, .int ((kUshrL ((sd_1 * 6364136223846793005) + 1442695040888963407) 33).toInt32)), (0, .ref h0), (1, .int p0)]) hx hb dX7_drawn_93 hl15 (k := 3) rfl (nI_1 j1) (by decide) rfl (fun ls29 hl29 => ?_)
            refine lv_goto (tgt := 26) hx hb dX7_drawn_96 (by decide) ?_
            subst hF12
            subst hF13
            have gr : r_X7_drawn Z sd pg tr p0 = l_X7_drawn_1_r pg n1 (j1 + 1) (s_X7_tick_Z Z_1 (upd tr_1 32 ((tr_1 32) ^^^ 1))) (s_X7_tick_f Z_1 (upd tr_1 32 ((tr_1 32) ^^^ 1))) ((sd_1 * 6364136223846793005) + 1442695040888963407) := by rw [hr_1, l_X7_drawn_1_r, if_pos c6, if_pos c7]
            have gZ : s_X7_drawn_Z Z sd pg tr p0 = l_X7_drawn_1_Z n1 (j1 + 1) (s_X7_tick_Z Z_1 (upd tr_1 32 ((tr_1 32) ^^^ 1))) (s_X7_tick_f Z_1 (upd tr_1 32 ((tr_1 32) ^^^ 1))) ((sd_1 * 6364136223846793005) + 1442695040888963407) := by rw [hZ_1, l_X7_drawn_1_Z, if_pos c6, if_pos c7]
            have gtr : s_X7_drawn_tr Z sd pg tr p0 = l_X7_drawn_1_tr n1 (j1 + 1) (s_X7_tick_Z Z_1 (upd tr_1 32 ((tr_1 32) ^^^ 1))) (s_X7_tick_f Z_1 (upd tr_1 32 ((tr_1 32) ^^^ 1))) ((sd_1 * 6364136223846793005) + 1442695040888963407) := by rw [htr_1, l_X7_drawn_1_tr, if_pos c6, if_pos c7]
            have gsd : s_X7_drawn_sd Z sd pg tr p0 = l_X7_drawn_1_sd n1 (j1 + 1) (s_X7_tick_Z Z_1 (upd tr_1 32 ((tr_1 32) ^^^ 1))) (s_X7_tick_f Z_1 (upd tr_1 32 ((tr_1 32) ^^^ 1))) ((sd_1 * 6364136223846793005) + 1442695040888963407) := by rw [hsd_1, l_X7_drawn_1_sd, if_pos c6, if_pos c7]
            exact ih1 (j1 + 1) (s_X7_tick_Z Z_1 (upd tr_1 32 ((tr_1 32) ^^^ 1))) (s_X7_tick_f Z_1 (upd tr_1 32 ((tr_1 32) ^^^ 1))) ((sd_1 * 6364136223846793005) + 1442695040888963407) (by omega) gr gZ gtr gsd _ _ _ hP27 hD28 hS26 (lv_sub hl29 [2, 3, 0] rfl)
        · skip
          refine k_top (y := 1) (kdr1 _ c6) ?_
          refine lv_iadd hx hb dX7_drawn_68 ?_
          refine k_top (y := 33) (by decide +kernel) ?_
          refine lv_dup2_11 hx hb dX7_drawn_69 rfl rfl ?_
          refine k_iald (v := (tr_1 33)) kx hK hP13 2 rfl 33 rfl (by decide) (by decide) rfl dX7_drawn_70 ?_
          refine lv_iload_n hx hb dX7_drawn_71 rfl (lv_at hl15 0 rfl) ?_
          refine lv_bipush (v := 16) hx hb dX7_drawn_72 (by decide) ?_
          refine lv_irem hx hb dX7_drawn_74 (by decide) ?_
          refine k_top (y := kRem ((kUshrL ((sd_1 * 6364136223846793005) + 1442695040888963407) 33).toInt32) 16) rfl ?_
          refine lv_if_ne (x := kRem ((kUshrL ((sd_1 * 6364136223846793005) + 1442695040888963407) 33).toInt32) 16) (tgt := 82) hx hb dX7_drawn_75 (by decide) (fun (c14 : ¬ (kRem ((kUshrL ((sd_1 * 6364136223846793005) + 1442695040888963407) 33).toInt32) 16 = 0)) => ?_) (fun (c14 : kRem ((kUshrL ((sd_1 * 6364136223846793005) + 1442695040888963407) 33).toInt32) 16 = 0) => ?_)
          · skip
            refine lv_iconst (v := 0) hx hb dX7_drawn_82 (by decide) ?_
            refine lv_ixor hx hb dX7_drawn_83 ?_
            refine k_iast kx hK hP13 hD14 hS12 2 rfl 33 rfl (by decide) (by decide) dX7_drawn_84 (fun H30 locs30 hP30 hD30 hS30 => ?_)
            have hP31 : va_P G.1 vwCl ([(h0, .inr (7, cM Z_1 q1 q2 q3 q4 q5 q6 q7 q8 q9 q10 q11 ((sd_1 * 6364136223846793005) + 1442695040888963407))), (q4, .inl (G.2.1, 55, .inl pg)), (q5, .inl (G.2.1, 55, .inl (upd tr_1 33 ((tr_1 33) ^^^ 0))))]) H30 := hP30
            have hD32 : va_D A ([(h0, .inr (7, cM Z_1 q1 q2 q3 q4 q5 q6 q7 q8 q9 q10 q11 ((sd_1 * 6364136223846793005) + 1442695040888963407))), (q4, .inl (G.2.1, 55, .inl pg)), (q5, .inl (G.2.1, 55, .inl (upd tr_1 33 ((tr_1 33) ^^^ 0))))]) := hD30
            refine lv_aload_n hx hb dX7_drawn_85 rfl (lv_at hl15 1 rfl) ?_
            refine lv_aload_n hx hb dX7_drawn_86 rfl (lv_at hl15 1 rfl) ?_
            refine va_get (ci := 7) (v := .ref q5) (C := RX7) (T := TX7) (N := 22) hx hb ht inX7 hown hK.1 hP31 0 rfl rfl 8 (by decide) (ht _ q_674) (fun _ h9 => h9) rfl dX7_drawn_87 ?_
            refine k_callv (kRunV (As := [.ref q5]) (rest := []) kx (c_X7_tick l G Z_1 ((sd_1 * 6364136223846793005) + 1442695040888963407) h0 q1 q2 q3 q4 q5 q6 q7 q8 q9 q10 q11 (upd tr_1 33 ((tr_1 33) ^^^ 0)) q5) q_782 q_779 q_36 q_781 q_18 nX7_tick ⟨Nat.le_of_ble_eq_true rfl, Nat.le_of_ble_eq_true rfl⟩ hK hP31 hD32 (kCtx_places _ _ [0, 2] rfl rfl) 0 7 rfl rfl rfl rfl hl15.1 (Nat.le_of_ble_eq_true rfl) dX7_drawn_90 ⟨Nat.zero_le _, Nat.zero_le _⟩) hP31 hD32 hS30 hA (kCtx_places _ _ [0, 2] rfl rfl) (fun _ => rfl) (fun u H33 locs33 hw hP33 hD33 hS33 => ?_)
            obtain ⟨F16, F17⟩ := u
            obtain ⟨hF16, hF17⟩ := hw
            have hF16 : s_X7_tick_Z Z_1 (upd tr_1 33 ((tr_1 33) ^^^ 0)) = F16 := (show F16 = s_X7_tick_Z Z_1 (upd tr_1 33 ((tr_1 33) ^^^ 0)) from hF16).symm
            have hF17 : s_X7_tick_f Z_1 (upd tr_1 33 ((tr_1 33) ^^^ 0)) = F17 := (show F17 = s_X7_tick_f Z_1 (upd tr_1 33 ((tr_1 33) ^^^ 0)) from hF17).symm
            have hP34 : va_P G.1 vwCl ([(h0, .inr (7, cM F16 q1 q2 q3 q4 q5 q6 q7 q8 q9 q10 q11 ((sd_1 * 6364136223846793005) + 1442695040888963407))), (q4, .inl (G.2.1, 55, .inl pg)), (q5, .inl (G.2.1, 55, .inl F17))]) H33 := hP33
            have hD35 : va_D A ([(h0, .inr (7, cM F16 q1 q2 q3 q4 q5 q6 q7 q8 q9 q10 q11 ((sd_1 * 6364136223846793005) + 1442695040888963407))), (q4, .inl (G.2.1, 55, .inl pg)), (q5, .inl (G.2.1, 55, .inl F17))]) := hD33
            refine lv_iinc (v := nI (j1 + 1)) (lv' := [(2, .int (nI (j1 + 1))), (3, .int ((kUshrL ((sd_1 * 6364136223846793005) + 1442695040888963407) 33).toInt32)), (0, .ref h0), (1, .int p0)]) hx hb dX7_drawn_93 hl15 (k := 3) rfl (nI_1 j1) (by decide) rfl (fun ls36 hl36 => ?_)
            refine lv_goto (tgt := 26) hx hb dX7_drawn_96 (by decide) ?_
            subst hF16
            subst hF17
            have gr : r_X7_drawn Z sd pg tr p0 = l_X7_drawn_1_r pg n1 (j1 + 1) (s_X7_tick_Z Z_1 (upd tr_1 33 ((tr_1 33) ^^^ 0))) (s_X7_tick_f Z_1 (upd tr_1 33 ((tr_1 33) ^^^ 0))) ((sd_1 * 6364136223846793005) + 1442695040888963407) := by rw [hr_1, l_X7_drawn_1_r, if_neg c6, if_neg c14]
            have gZ : s_X7_drawn_Z Z sd pg tr p0 = l_X7_drawn_1_Z n1 (j1 + 1) (s_X7_tick_Z Z_1 (upd tr_1 33 ((tr_1 33) ^^^ 0))) (s_X7_tick_f Z_1 (upd tr_1 33 ((tr_1 33) ^^^ 0))) ((sd_1 * 6364136223846793005) + 1442695040888963407) := by rw [hZ_1, l_X7_drawn_1_Z, if_neg c6, if_neg c14]
            have gtr : s_X7_drawn_tr Z sd pg tr p0 = l_X7_drawn_1_tr n1 (j1 + 1) (s_X7_tick_Z Z_1 (upd tr_1 33 ((tr_1 33) ^^^ 0))) (s_X7_tick_f Z_1 (upd tr_1 33 ((tr_1 33) ^^^ 0))) ((sd_1 * 6364136223846793005) + 1442695040888963407) := by rw [htr_1, l_X7_drawn_1_tr, if_neg c6, if_neg c14]
            have gsd : s_X7_drawn_sd Z sd pg tr p0 = l_X7_drawn_1_sd n1 (j1 + 1) (s_X7_tick_Z Z_1 (upd tr_1 33 ((tr_1 33) ^^^ 0))) (s_X7_tick_f Z_1 (upd tr_1 33 ((tr_1 33) ^^^ 0))) ((sd_1 * 6364136223846793005) + 1442695040888963407) := by rw [hsd_1, l_X7_drawn_1_sd, if_neg c6, if_neg c14]
            exact ih1 (j1 + 1) (s_X7_tick_Z Z_1 (upd tr_1 33 ((tr_1 33) ^^^ 0))) (s_X7_tick_f Z_1 (upd tr_1 33 ((tr_1 33) ^^^ 0))) ((sd_1 * 6364136223846793005) + 1442695040888963407) (by omega) gr gZ gtr gsd _ _ _ hP34 hD35 hS33 (lv_sub hl36 [2, 3, 0] rfl)
          · skip
            refine lv_iconst (v := 1) hx hb dX7_drawn_78 (by decide) ?_
            refine lv_goto (tgt := 83) hx hb dX7_drawn_79 (by decide) ?_
            refine lv_ixor hx hb dX7_drawn_83 ?_
            refine k_iast kx hK hP13 hD14 hS12 2 rfl 33 rfl (by decide) (by decide) dX7_drawn_84 (fun H37 locs37 hP37 hD37 hS37 => ?_)
            have hP38 : va_P G.1 vwCl ([(h0, .inr (7, cM Z_1 q1 q2 q3 q4 q5 q6 q7 q8 q9 q10 q11 ((sd_1 * 6364136223846793005) + 1442695040888963407))), (q4, .inl (G.2.1, 55, .inl pg)), (q5, .inl (G.2.1, 55, .inl (upd tr_1 33 ((tr_1 33) ^^^ 1))))]) H37 := hP37
            have hD39 : va_D A ([(h0, .inr (7, cM Z_1 q1 q2 q3 q4 q5 q6 q7 q8 q9 q10 q11 ((sd_1 * 6364136223846793005) + 1442695040888963407))), (q4, .inl (G.2.1, 55, .inl pg)), (q5, .inl (G.2.1, 55, .inl (upd tr_1 33 ((tr_1 33) ^^^ 1))))]) := hD37
            refine lv_aload_n hx hb dX7_drawn_85 rfl (lv_at hl15 1 rfl) ?_
            refine lv_aload_n hx hb dX7_drawn_86 rfl (lv_at hl15 1 rfl) ?_
            refine va_get (ci := 7) (v := .ref q5) (C := RX7) (T := TX7) (N := 22) hx hb ht inX7 hown hK.1 hP38 0 rfl rfl 8 (by decide) (ht _ q_674) (fun _ h9 => h9) rfl dX7_drawn_87 ?_
            refine k_callv (kRunV (As := [.ref q5]) (rest := []) kx (c_X7_tick l G Z_1 ((sd_1 * 6364136223846793005) + 1442695040888963407) h0 q1 q2 q3 q4 q5 q6 q7 q8 q9 q10 q11 (upd tr_1 33 ((tr_1 33) ^^^ 1)) q5) q_782 q_779 q_36 q_781 q_18 nX7_tick ⟨Nat.le_of_ble_eq_true rfl, Nat.le_of_ble_eq_true rfl⟩ hK hP38 hD39 (kCtx_places _ _ [0, 2] rfl rfl) 0 7 rfl rfl rfl rfl hl15.1 (Nat.le_of_ble_eq_true rfl) dX7_drawn_90 ⟨Nat.zero_le _, Nat.zero_le _⟩) hP38 hD39 hS37 hA (kCtx_places _ _ [0, 2] rfl rfl) (fun _ => rfl) (fun u H40 locs40 hw hP40 hD40 hS40 => ?_)
            obtain ⟨F19, F20⟩ := u
            obtain ⟨hF19, hF20⟩ := hw
            have hF19 : s_X7_tick_Z Z_1 (upd tr_1 33 ((tr_1 33) ^^^ 1)) = F19 := (show F19 = s_X7_tick_Z Z_1 (upd tr_1 33 ((tr_1 33) ^^^ 1)) from hF19).symm
            have hF20 : s_X7_tick_f Z_1 (upd tr_1 33 ((tr_1 33) ^^^ 1)) = F20 := (show F20 = s_X7_tick_f Z_1 (upd tr_1 33 ((tr_1 33) ^^^ 1)) from hF20).symm
            have hP41 : va_P G.1 vwCl ([(h0, .inr (7, cM F19 q1 q2 q3 q4 q5 q6 q7 q8 q9 q10 q11 ((sd_1 * 6364136223846793005) + 1442695040888963407))), (q4, .inl (G.2.1, 55, .inl pg)), (q5, .inl (G.2.1, 55, .inl F20))]) H40 := hP40
            have hD42 : va_D A ([(h0, .inr (7, cM F19 q1 q2 q3 q4 q5 q6 q7 q8 q9 q10 q11 ((sd_1 * 6364136223846793005) + 1442695040888963407))), (q4, .inl (G.2.1, 55, .inl pg)), (q5, .inl (G.2.1, 55, .inl F20))]) := hD40
            refine lv_iinc (v := nI (j1 + 1)) (lv' := [(2, .int (nI (j1 + 1))), (3, .int ((kUshrL ((sd_1 * 6364136223846793005) + 1442695040888963407) 33).toInt32)), (0, .ref h0), (1, .int p0)]) hx hb dX7_drawn_93 hl15 (k := 3) rfl (nI_1 j1) (by decide) rfl (fun ls43 hl43 => ?_)
            refine lv_goto (tgt := 26) hx hb dX7_drawn_96 (by decide) ?_
            subst hF19
            subst hF20
            have gr : r_X7_drawn Z sd pg tr p0 = l_X7_drawn_1_r pg n1 (j1 + 1) (s_X7_tick_Z Z_1 (upd tr_1 33 ((tr_1 33) ^^^ 1))) (s_X7_tick_f Z_1 (upd tr_1 33 ((tr_1 33) ^^^ 1))) ((sd_1 * 6364136223846793005) + 1442695040888963407) := by rw [hr_1, l_X7_drawn_1_r, if_neg c6, if_pos c14]
            have gZ : s_X7_drawn_Z Z sd pg tr p0 = l_X7_drawn_1_Z n1 (j1 + 1) (s_X7_tick_Z Z_1 (upd tr_1 33 ((tr_1 33) ^^^ 1))) (s_X7_tick_f Z_1 (upd tr_1 33 ((tr_1 33) ^^^ 1))) ((sd_1 * 6364136223846793005) + 1442695040888963407) := by rw [hZ_1, l_X7_drawn_1_Z, if_neg c6, if_pos c14]
            have gtr : s_X7_drawn_tr Z sd pg tr p0 = l_X7_drawn_1_tr n1 (j1 + 1) (s_X7_tick_Z Z_1 (upd tr_1 33 ((tr_1 33) ^^^ 1))) (s_X7_tick_f Z_1 (upd tr_1 33 ((tr_1 33) ^^^ 1))) ((sd_1 * 6364136223846793005) + 1442695040888963407) := by rw [htr_1, l_X7_drawn_1_tr, if_neg c6, if_pos c14]
            have gsd : s_X7_drawn_sd Z sd pg tr p0 = l_X7_drawn_1_sd n1 (j1 + 1) (s_X7_tick_Z Z_1 (upd tr_1 33 ((tr_1 33) ^^^ 1))) (s_X7_tick_f Z_1 (upd tr_1 33 ((tr_1 33) ^^^ 1))) ((sd_1 * 6364136223846793005) + 1442695040888963407) := by rw [hsd_1, l_X7_drawn_1_sd, if_neg c6, if_pos c14]
            exact ih1 (j1 + 1) (s_X7_tick_Z Z_1 (upd tr_1 33 ((tr_1 33) ^^^ 1))) (s_X7_tick_f Z_1 (upd tr_1 33 ((tr_1 33) ^^^ 1))) ((sd_1 * 6364136223846793005) + 1442695040888963407) (by omega) gr gZ gtr gsd _ _ _ hP41 hD42 hS40 (lv_sub hl43 [2, 3, 0] rfl)
    have gr : r_X7_drawn Z sd pg tr p0 = l_X7_drawn_1_r pg p0.toNatClampNeg 0 (upd (upd (upd (upd Z 0 0) 18 (-9)) 20 0) 21 6) (s_X7_lay_t pg tr) sd := by rw [r_X7_drawn, if_neg c2]
    have gZ : s_X7_drawn_Z Z sd pg tr p0 = l_X7_drawn_1_Z p0.toNatClampNeg 0 (upd (upd (upd (upd Z 0 0) 18 (-9)) 20 0) 21 6) (s_X7_lay_t pg tr) sd := by rw [s_X7_drawn_Z, if_neg c2]
    have gtr : s_X7_drawn_tr Z sd pg tr p0 = l_X7_drawn_1_tr p0.toNatClampNeg 0 (upd (upd (upd (upd Z 0 0) 18 (-9)) 20 0) 21 6) (s_X7_lay_t pg tr) sd := by rw [s_X7_drawn_tr, if_neg c2]
    have gsd : s_X7_drawn_sd Z sd pg tr p0 = l_X7_drawn_1_sd p0.toNatClampNeg 0 (upd (upd (upd (upd Z 0 0) 18 (-9)) 20 0) 21 6) (s_X7_lay_t pg tr) sd := by rw [s_X7_drawn_sd, if_neg c2]
    exact lp1 p0.toNatClampNeg 0 (upd (upd (upd (upd Z 0 0) 18 (-9)) 20 0) 21 6) (s_X7_lay_t pg tr) sd (by omega) gr gZ gtr gsd _ _ _ hP8 hD9 hS7 (lv_sub hl10 [1, 2, 0] rfl)
  · skip
    refine lv_bipush (v := (-2)) hx hb dX7_drawn_17 (by decide) ?_
    have er : r_X7_drawn Z sd pg tr p0 = (-2) := by rw [r_X7_drawn]; (try rw [hr1]); rw [if_pos c2]
    have e0 : s_X7_drawn_Z Z sd pg tr p0 = upd Z 0 0 := by rw [s_X7_drawn_Z]; (try rw [hr1]); rw [if_pos c2]
    have e1 : s_X7_drawn_tr Z sd pg tr p0 = tr := by rw [s_X7_drawn_tr]; (try rw [hr1]); rw [if_pos c2]
    have e2 : s_X7_drawn_sd Z sd pg tr p0 = sd := by rw [s_X7_drawn_sd]; (try rw [hr1]); rw [if_pos c2]
    exact k_iret kx hK hP5 hD6 hS4 (u := (upd Z 0 0, tr, sd)) rfl ⟨er.symm, e0.symm, e1.symm, e2.symm⟩ dX7_drawn_19

def l_X7_factorial_1_r : Nat → Nat → Int32 → Int32
  | 0, j1, v_1 => v_1
  | n1 + 1, j1, v_1 => l_X7_factorial_1_r n1 (j1 + 1) (v_1 * (nI j1))
def r_X7_factorial (p0 : Int32) : Int32 := l_X7_factorial_1_r (kF p0 - 2) 2 1
set_option maxHeartbeats 4000000 in
set_option maxRecDepth 100000 in
theorem c_X7_factorial (l : Launch) (G : kG) (p0 : Int32) (hp : p0.toNatClampNeg ≤ 100) : cG l G yX7_factorial cX7_factorial 3 (some .int) 0 [.int p0] ([]) (qI G (fun (r : Int32) (_ : Unit) => r = r_X7_factorial p0) (fun _ => [])) := by
  refine kintro (by decide) (Nat.le_of_ble_eq_true rfl) ?_
  intro p e s m args below meth c A ls kx hK hP hD hS hA hl
  have kx : kX p s m args meth c cX7_factorial 3 (some .int) RX7 := kx
  have hx := kx.1
  have hb := kx.2.1
  have hown := kx.2.2.2.2.1
  have ht := kx.2.2.2.2.2.2
  have hl : lv_has ls 3 [(0, .int p0)] := hl
  have hkF := kF_ge p0
  refine lv_iconst (v := 1) hx hb dX7_factorial_0 (by decide) ?_
  refine lv_istore_n (lv' := [(1, .int 1), (0, .int p0)]) hx hb dX7_factorial_1 rfl hl (by decide) rfl (fun ls1 hl1 => ?_)
  refine lv_iconst (v := 2) hx hb dX7_factorial_2 (by decide) ?_
  refine lv_istore_n (lv' := [(2, .int 2), (1, .int 1), (0, .int p0)]) hx hb dX7_factorial_3 rfl hl1 (by decide) rfl (fun ls2 hl2 => ?_)
  have lp1 : ∀ (n1 j1 : Nat) (v_1 : Int32), j1 + n1 = kF p0 → (hr_1 : r_X7_factorial p0 = l_X7_factorial_1_r n1 j1 v_1) → (hj2 : 2 ≤ j1) → ∀ (H : Heap) (locs : List Loc) (ls : Array Slot), va_P G.1 vwCl ([]) H → va_D A ([]) → va_S A s.heap H locs → lv_has ls 3 [(0, .int p0), (1, .int v_1), (2, .int (nI j1))] → W p l e (kr 0) s m args below meth c H locs 0 0 (MQ below (qI G (fun (r : Int32) (_ : Unit) => r = r_X7_factorial p0) (fun _ => []) A) args s 0 0 A) (F0 m 4 ls []) := by
    intro n1
    induction n1 with
    | zero =>
      intro j1 v_1 hj1 hr_1 hj2 H3 locs3 ls3 hP3 hD3 hS3 hl3
      refine lv_iload_n hx hb dX7_factorial_4 rfl (lv_at hl3 2 rfl) ?_
      refine lv_iload_n hx hb dX7_factorial_5 rfl (lv_at hl3 0 rfl) ?_
      refine lv_icmp_gt (x := nI j1) (y := p0) (tgt := 19) hx hb dX7_factorial_6 (by decide) (fun (c1 : p0 < nI j1) => ?_) (fun (c1 : ¬ (p0 < nI j1)) => absurd (kF_z hp hj1 hj2) c1)
      refine lv_iload_n hx hb dX7_factorial_19 rfl (lv_at hl3 1 rfl) ?_
      have er : r_X7_factorial p0 = v_1 := by rw [hr_1, l_X7_factorial_1_r]
      exact k_iret kx hK hP3 hD3 hS3 (u := ()) rfl er.symm dX7_factorial_20
    | succ n1 ih1 =>
      intro j1 v_1 hj1 hr_1 hj2 H3 locs3 ls3 hP3 hD3 hS3 hl3
      refine lv_iload_n hx hb dX7_factorial_4 rfl (lv_at hl3 2 rfl) ?_
      refine lv_iload_n hx hb dX7_factorial_5 rfl (lv_at hl3 0 rfl) ?_
      refine lv_icmp_gt (x := nI j1) (y := p0) (tgt := 19) hx hb dX7_factorial_6 (by decide) (fun (c2 : p0 < nI j1) => absurd c2 (kF_s hj1 hj2)) (fun (c2 : ¬ (p0 < nI j1)) => ?_)
      refine lv_iload_n hx hb dX7_factorial_9 rfl (lv_at hl3 1 rfl) ?_
      refine lv_iload_n hx hb dX7_factorial_10 rfl (lv_at hl3 2 rfl) ?_
      refine lv_imul hx hb dX7_factorial_11 ?_
      refine lv_istore_n (lv' := [(1, .int (v_1 * (nI j1))), (0, .int p0), (2, .int (nI j1))]) hx hb dX7_factorial_12 rfl hl3 (by decide) rfl (fun ls4 hl4 => ?_)
      refine lv_iinc (v := nI (j1 + 1)) (lv' := [(2, .int (nI (j1 + 1))), (1, .int (v_1 * (nI j1))), (0, .int p0)]) hx hb dX7_factorial_13 hl4 (k := 2) rfl (nI_1 j1) (by decide) rfl (fun ls5 hl5 => ?_)
      refine lv_goto (tgt := 4) hx hb dX7_factorial_16 (by decide) ?_
      have gr : r_X7_factorial p0 = l_X7_factorial_1_r n1 (j1 + 1) (v_1 * (nI j1)) := by rw [hr_1, l_X7_factorial_1_r]
      exact ih1 (j1 + 1) (v_1 * (nI j1)) (by omega) gr (by omega) _ _ _ hP3 hD3 hS3 (lv_sub hl5 [2, 1, 0] rfl)
  have gr : r_X7_factorial p0 = l_X7_factorial_1_r (kF p0 - 2) 2 1 := by rw [r_X7_factorial]
  exact lp1 (kF p0 - 2) 2 1 (by omega) gr (by omega) _ _ _ hP hD hS (lv_sub hl2 [2, 1, 0] rfl)
