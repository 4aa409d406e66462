/-! THE CLAIM OUT OF ONE WALK OF THE LAW'S BODY. Your part is whole_start (and what it stands on); all else here is the same for every law, but numbers. -/
def R_law : String := "StillThereLaw"
def lw_P (b : Addr) (xs : List Int32) (args : Array Value) (s : State) : Prop := args = #[.ref b] ∧ s.IntsAt b xs ∧ xs.length ≤ 2048 ∧ (Jvm.Cond.and given_1 narrow_1).before args s = true
def lw_Q (_ : Array Value) (s : State) (o : Outcome) (t : State) : Prop := o = .returned (some (.int 1)) ∧ Framed s o t [] 600000 7302250
def lw_Z (below : List Frame) (a : Array Value) (s : State) : State → Prop := fun t => ∃ o, t.status = .running ∧ Ended t below o ∧ lw_Q a s o t
/-- the law's own end, with 1 on the stack, nothing written that was there before, its room as the claim has it -/
theorem lw_ret {p : Program} {l : Launch} {e : Env} {s : State} {m : MethodId} {below : List Frame} {meth : Method} {c : Code} {b : Nat} (hx : p.tables.exec = Jvm.exec) (hb : c.code = code) (hr : meth.sig.returnType = ret) (hlocks : meth.locks = false) {pc : Nat} {H : Heap} {ls : Array Slot} (hdg : decode code pc = .ok (.ireturn, 1)) : W p l e room_1 s m #[Value.ref b] below meth c H [] 600000 7302250 (lw_Z below #[Value.ref b] s) (F0 m pc ls [.int 1]) := by
  intro T hT X
  obtain ⟨fs, hret, hrun, hended, hW, hframe⟩ := X.leave (v := some (.int 1)) (hlocks := hlocks) (fun h => by rw [hr] at h; cases h)
  have hmeth' : T.vm.method? m = some meth := X.method'
  refine ⟨T.setFrames fs, ?_, .returned (some (.int 1)), hrun, hended, rfl, ⟨_, rfl⟩, hW, hframe⟩
  jvm_step X.here [X.here.top, hx, hb, hdg, hmeth', hr, ret, narrow_b1]
  (try refine ⟨rfl, ?_⟩); (try refine ⟨rfl, ?_⟩)
  first | (intro acts; rw [hret _ acts rfl rfl rfl]) | rw [hret _ _ rfl rfl rfl]
  exact Steps.refl _
/-- what holds at the law's entry: the machine, the code, the tables' words (any of lw_tbl by 'hts w (by decide +kernel)'), the script of L ints xs at the cell b, what the Statement gives of the start (any of its parts by flat_of_before) -/
def lw_At (p : Program) (s : State) (m : MethodId) (meth : Method) (c : Code) (b L : Nat) (xs : Nat → Int32) : Prop :=
  p.tables.exec = Jvm.exec ∧ c.code = code ∧ meth.sig.returnType = ret ∧ c.maxLocals = 4 ∧ s.vm.findClass R_law = some m.cls ∧ (∀ w ∈ lw_tbl, w.before #[Value.ref b] s = true) ∧ va_X b L xs s s.heap ∧ b < s.heap.size ∧ meth.locks = false ∧ (Jvm.Cond.and given_1 narrow_1).before #[Value.ref b] s = true
theorem lwGk {s : State} {args : Array Value} (hts : ∀ w ∈ lw_tbl, w.before args s = true) : ∃ G : kG, kK G s := by
  have ht : ∀ w ∈ kW, w.before args s = true := fun w h => hts w (List.mem_filter.mp h).1
  obtain ⟨c0, i0, k0⟩ := u_known (C := RX0) (T := TX0) (N := 12) (n := 12) ht inX0 (ht _ q_69)
  obtain ⟨c1, i1, k1⟩ := u_known (C := RX1) (T := TX1) (N := 4) (n := 4) ht inX1 (ht _ q_243)
  obtain ⟨c2, i2, k2⟩ := u_known (C := RX2) (T := TX2) (N := 5) (n := 5) ht inX2 (ht _ q_75)
  obtain ⟨c3, i3, k3⟩ := u_known (C := RX3) (T := TX3) (N := 2) (n := 2) ht inX3 (ht _ q_48)
  obtain ⟨c4, i4, k4⟩ := u_known (C := RX4) (T := TX4) (N := 7) (n := 7) ht inX4 (ht _ q_156)
  obtain ⟨c5, i5, k5⟩ := u_known (C := RX5) (T := TX5) (N := 8) (n := 8) ht inX5 (ht _ q_63)
  obtain ⟨c6, i6, k6⟩ := u_known (C := RX6) (T := TX6) (N := 9) (n := 9) ht inX6 (ht _ q_40)
  obtain ⟨c7, i7, k7⟩ := u_known (C := RX7) (T := TX7) (N := 22) (n := 22) ht inX7 (ht _ q_658)
  obtain ⟨a1, b1, m1, f1, g1, h1⟩ := Cond.arrayClass_spec (ht _ q_61)
  obtain ⟨a2, b2, m2, f2, g2, h2⟩ := Cond.arrayClass_spec (ht _ q_262)
  have ho : (Cond.arrayOver (.object "StillThere$World")).before args s = true := hts _ (by decide +kernel)
  obtain ⟨m3, a3, b3, f3, -, g3, h3, n3⟩ := Cond.arrayOver_spec ho
  refine ⟨((fun k => ([c0, c1, c2, c3, c4, c5, c6, c7] : List ClassId).getD k c7, fun k => ([i0, i1, i2, i3, i4, i5, i6, i7] : List (Nat → Nat)).getD k i7), a1, a2, a3), ⟨fun c q hq => ?_, fun k q hk => ?_⟩, ?_⟩
  · match c, hq with
    | 0, hq => have e := (Option.some.inj (show some (RX0, TX0, 12) = some q from hq)).symm; subst e; exact k0
    | 1, hq => have e := (Option.some.inj (show some (RX1, TX1, 4) = some q from hq)).symm; subst e; exact k1
    | 2, hq => have e := (Option.some.inj (show some (RX2, TX2, 5) = some q from hq)).symm; subst e; exact k2
    | 3, hq => have e := (Option.some.inj (show some (RX3, TX3, 2) = some q from hq)).symm; subst e; exact k3
    | 4, hq => have e := (Option.some.inj (show some (RX4, TX4, 7) = some q from hq)).symm; subst e; exact k4
    | 5, hq => have e := (Option.some.inj (show some (RX5, TX5, 8) = some q from hq)).symm; subst e; exact k5
    | 6, hq => have e := (Option.some.inj (show some (RX6, TX6, 9) = some q from hq)).symm; subst e; exact k6
    | 7, hq => have e := (Option.some.inj (show some (RX7, TX7, 22) = some q from hq)).symm; subst e; exact k7
    | n + 8, hq => exact absurd (show (none : Option vw_C) = some q from hq) (by simp)
  · match k, hk with
    | 0, hk => have e := (Option.some.inj (show some (a1, FieldType.int) = some q from hk)).symm; subst e; exact ⟨fun N z => ⟨(fun k h => by cases h), b1, g1, m1, h1⟩, f1⟩
    | 1, hk => have e := (Option.some.inj (show some (a2, FieldType.boolean) = some q from hk)).symm; subst e; exact ⟨fun N z => ⟨(fun k h => by cases h), b2, g2, m2, h2⟩, f2⟩
    | 2, hk => have e := (Option.some.inj (show some (a3, FieldType.object "StillThere$World") = some q from hk)).symm; subst e; exact ⟨fun N z => ⟨(fun k h => by cases h), b3, g3, m3, h3⟩, b3, m3, g3, h3, f3, n3⟩
    | n + 3, hk => exact absurd (show (none : Option (ClassId × FieldType)) = some q from hk) (by simp)
  · exact ⟨va_Nw.of rfl (hts (.methodLinkNest RX6 9 yX3_init RX6) (by decide +kernel)), va_Nw.of rfl (hts (.methodLinkNest RX5 11 yX0_init RX6) (by decide +kernel)), va_Nw.of rfl (hts (.methodLinkNest RX0 11 yX2_init RX6) (by decide +kernel)), va_Nw.of rfl (hts (.methodLinkNest RX5 23 yX4_init RX6) (by decide +kernel)), va_Nw.of rfl (hts (.methodLinkNest RX4 9 yX2_init RX6) (by decide +kernel)), va_Nw.of rfl (hts (.methodLinkNest RX6 39 yX1_init RX6) (by decide +kernel)), va_Nw.of rfl (hts (.methodLinkNest RX0 60 yX6_oneIf RX6) (by decide +kernel)), va_Nw.of rfl (hts (.methodLinkNest RX2 37 yX6_oneIf RX6) (by decide +kernel)), va_AO.of ho⟩
theorem rW_0 (f : Nat → Int32) : rW kG0 (s_X7_layFirst_f f) := by
  obtain ⟨f0, hf, e⟩ := layF f
  rw [e]
  exact ⟨⟨rfl, rfl, rfl, rfl, rfl, hf 5 (by decide), hf 6 (by decide), hf 7 (by decide), hf 8 (by decide), hf 9 (by decide), hf 10 (by decide), hf 11 (by decide), rfl, rfl, rfl, hf 15 (by decide)⟩, ⟨rfl, rfl, rfl, rfl, rfl, hf 21 (by decide), hf 22 (by decide), hf 23 (by decide), hf 24 (by decide), hf 25 (by decide), hf 26 (by decide), hf 27 (by decide), rfl, rfl, rfl, hf 31 (by decide)⟩, ⟨rfl, hf 34 (by decide), fun q => absurd (show (0 : Int32) = 1 from q) (by decide)⟩, ⟨rfl, hf 43 (by decide), fun q => absurd (show (0 : Int32) = 1 from q) (by decide)⟩, ⟨hf 52 (by decide), hf 53 (by decide), hf 54 (by decide)⟩, ⟨⟨Or.inl rfl, Or.inl rfl, Or.inl rfl, Or.inl rfl⟩, ⟨Or.inl rfl, Or.inl rfl, Or.inl rfl, Or.inl rfl⟩, ⟨Or.inl rfl, Or.inl rfl, Or.inl rfl, Or.inl rfl, Or.inl rfl, Or.inr rfl⟩, ⟨Or.inl rfl, Or.inl rfl, Or.inl rfl, Or.inl rfl, Or.inl rfl, Or.inr rfl⟩⟩, ⟨⟨by decide, by decide⟩, ⟨by decide, by decide⟩⟩, rfl, rfl, rfl⟩
theorem rR_0 {n9 : Nat} (h : n9 = 14) {Z : Nat → Int32} (hZ : Z 2 = nI 0 ∧ Z 10 = nI 0 ∧ Z 13 = nI 0) {pg : Nat → Int32} (hpg : rW kG0 pg) (sg ik tk en mo tx bk kp jk sa se sm : Nat → Int32) (hk : ik 0 = 0 ∧ ik 1 = 0 ∧ jk 0 = 0 ∧ jk 1 = 0) : rR n9 0 0 0 (fun i => i) sg ik tk en mo kG0 kG0 kG0 (fun _ => kG0) Z tx pg bk kp jk sa se sm := by
  have hb := hpg.2.2.2.2.2.1
  refine ⟨h, by decide, by decide, by decide, hZ, hpg, ⟨fun i hi => hi, fun i j _ _ e => e, fun _ _ => hb, fun i hi => absurd hi (by omega)⟩, fun i hi => absurd hi (by omega), ⟨Or.inl hk.1, Or.inl hk.2.1, hk.2.2.1.trans hk.1.symm, hk.2.2.2.trans hk.2.1.symm, hb, hb, fun q => ?_, fun q => ?_⟩, fun i hi => absurd hi (by omega)⟩
  · rw [hk.1] at q; exact absurd q (by decide)
  · rw [hk.2.1] at q; exact absurd q (by decide)
theorem lw_step {n0 I : Nat} (hn : n0 ≤ 2048) (hI : I ≤ 3000) (h : ¬ nI n0 - 4 < nI I) : I + 4 ≤ n0 := by
  rcases Nat.lt_or_ge n0 4 with q | q
  · exfalso
    have hp : (0 : Int32) ≤ nI I := nI_pos' (by omega)
    rcases (show n0 = 0 ∨ n0 = 1 ∨ n0 = 2 ∨ n0 = 3 by omega) with rfl | rfl | rfl | rfl
    all_goals exact h (Int32.lt_of_lt_of_le (by decide) hp)
  · rw [show (4 : Int32) = nI 4 from rfl, pk_sub q] at h
    rcases Nat.lt_or_ge (n0 - 4) I with w | w
    · exact absurd (nI_lt w (by omega)) h
    · omega
set_option maxHeartbeats 4000000 in
set_option maxRecDepth 100000 in
theorem lw_loop {p : Program} {l : Launch} {e : Env} {s : State} {m : MethodId} {below : List Frame} {meth : Method} {c : Code} {G : kG} {n9 : Nat} {h0 t0 t1 b0 s0 i0 e0 e1 e2 e3 : Nat} {aN aT aS0 aS1 : Nat → Nat} {aB : Nat → Nat → Nat} {h7 : Nat} {uq : Nat → Nat} {b n0 : Nat} {xs : Nat → Int32} {cells slots : Nat} (hn : n0 ≤ 2048) (C0 : lw_At p s m meth c b n0 xs) (hK : kK G s) (hf : cells ≤ room_1.cells ∧ slots ≤ room_1.slots) : ∀ (n I : Nat), n0 < I + n → I ≤ n0 + 4 → ∀ (H : Heap) (locs : List Loc) (ls : Array Slot), lv_has ls 4 [(3, .int (nI I)), (2, .ref h7), (1, .ref h0), (0, .ref b)] → lwS G n9 (fun q : Nat => s.heap.size ≤ q) h0 t0 t1 b0 s0 i0 e0 e1 e2 e3 aN aT aS0 aS1 aB h7 uq H → va_S (fun q : Nat => s.heap.size ≤ q) s.heap H locs → W p l e room_1 s m #[Value.ref b] below meth c H locs cells slots (lw_Z below #[Value.ref b] s) (F0 m 18 ls []) := by
  obtain ⟨hx, hb, hr, hml, hown, hts, hX, hbl, hlocks, hgv⟩ := C0
  have ht : ∀ w ∈ kW, w.before #[Value.ref b] s = true := fun w h => hts w (List.mem_filter.mp h).1
  have kx : kX p s m #[Value.ref b] meth c cL_law 4 ret RL := ⟨hx, hb, hml, hr, hown, hlocks, ht⟩
  have hA : ∀ q : Nat, s.heap.size ≤ q → (fun q : Nat => s.heap.size ≤ q) q := fun _ h => h
  have hbA : ¬ (fun q : Nat => s.heap.size ≤ q) b := Nat.not_le.mpr hbl
  intro n
  induction n with
  | zero =>
    intro I h1 h2 H locs ls hl hs hS
    refine lv_iload_n hx hb dL_law_18 rfl (lv_at hl 0 rfl) ?_
    refine lv_aload_n hx hb dL_law_19 rfl (lv_at hl 3 rfl) ?_
    refine va_slen hx hb hX hbl hbA hS dL_law_20 ?_
    refine lv_iconst (v := 4) hx hb dL_law_21 (by decide) ?_
    refine lv_isub hx hb dL_law_22 ?_
    refine lv_icmp_gt (tgt := 909) hx hb dL_law_23 (by decide) (fun c1 => ?_) (fun c1 => ?_)
    · refine lv_iconst (v := 1) hx hb dL_law_909 (by decide) ?_
      refine va_forget (fun q hq => hS.2.2 q hq) ?_
      refine W.widen (k := 600000) (n := 7302250) hf.1 hf.2 ?_
      exact lw_ret hx hb hr hlocks dL_law_910
    · have hI : I + 4 ≤ n0 := lw_step hn (by omega) (fun q => c1 q)
      omega
  | succ n ih =>
    intro I h1 h2 H locs ls hl hs hS
    refine lv_iload_n hx hb dL_law_18 rfl (lv_at hl 0 rfl) ?_
    refine lv_aload_n hx hb dL_law_19 rfl (lv_at hl 3 rfl) ?_
    refine va_slen hx hb hX hbl hbA hS dL_law_20 ?_
    refine lv_iconst (v := 4) hx hb dL_law_21 (by decide) ?_
    refine lv_isub hx hb dL_law_22 ?_
    refine lv_icmp_gt (tgt := 909) hx hb dL_law_23 (by decide) (fun c1 => ?_) (fun c1 => ?_)
    · refine lv_iconst (v := 1) hx hb dL_law_909 (by decide) ?_
      refine va_forget (fun q hq => hS.2.2 q hq) ?_
      refine W.widen (k := 600000) (n := 7302250) hf.1 hf.2 ?_
      exact lw_ret hx hb hr hlocks dL_law_910
    · have hI : I + 4 ≤ n0 := lw_step hn (by omega) (fun q => c1 q)
      have next : ∀ (H1 : Heap) (locs1 : List Loc), lwS G n9 (fun q : Nat => s.heap.size ≤ q) h0 t0 t1 b0 s0 i0 e0 e1 e2 e3 aN aT aS0 aS1 aB h7 uq H1 → va_S (fun q : Nat => s.heap.size ≤ q) s.heap H1 locs1 → W p l e room_1 s m #[Value.ref b] below meth c H1 locs1 cells slots (lw_Z below #[Value.ref b] s) (F0 m 903 ls []) := fun H1 locs1 hs1 hS1 => by
        refine lv_iinc (v := nI (I + 4)) (lv' := [(3, .int (nI (I + 4))), (2, .ref h7), (1, .ref h0), (0, .ref b)]) hx hb dL_law_903 hl (k := 0) rfl (by rw [show Int32.ofInt 4 = nI 4 from by decide, nI_add]) (by decide) rfl (fun ls1 hl1 => ?_)
        refine lv_goto (tgt := 18) hx hb dL_law_906 (by decide) ?_
        exact ih (I + 4) (by omega) (by omega) H1 locs1 ls1 hl1 hs1 hS1
      refine lv_aload_n hx hb dL_law_26 rfl (lv_at hl 3 rfl) ?_
      refine lv_iload_n hx hb dL_law_27 rfl (lv_at hl 0 rfl) ?_
      refine va_sld (i := nI I) hx hb hX hbl hbA hS (fun q => ?_) dL_law_28 ?_
      · rcases q with q | q
        · exact absurd q (Int32.not_lt.mpr (nI_pos' (by omega)))
        · rw [nI_clamp (by omega)] at q; omega
      · refine lv_bipush (v := 31) hx hb dL_law_29 (by decide) ?_
        refine lv_iand hx hb dL_law_31 ?_
        generalize xs (nI I).toNatClampNeg &&& 31 = x
        by_cases c2 : x < 0
        · exact lv_tableOut (tgt := 903) hx hb dL_law_32 (Or.inl (by have := Int32.lt_iff_toInt_lt.mp c2; have e0 : (0 : Int32).toInt = 0 := rfl; omega)) (by decide) (next _ _ hs hS)
        · by_cases c3 : 25 < x
          · exact lv_tableOut (tgt := 903) hx hb dL_law_32 (Or.inr (by have := Int32.lt_iff_toInt_lt.mp c3; have e0 : (25 : Int32).toInt = 25 := rfl; omega)) (by decide) (next _ _ hs hS)
          · obtain ⟨w, hw, rfl⟩ := knum (N := 25) (by decide) c2 c3
            rcases (show w = 0 ∨ w = 1 ∨ w = 2 ∨ w = 3 ∨ w = 4 ∨ w = 5 ∨ w = 6 ∨ w = 7 ∨ w = 8 ∨ w = 9 ∨ w = 10 ∨ w = 11 ∨ w = 12 ∨ w = 13 ∨ w = 14 ∨ w = 15 ∨ w = 16 ∨ w = 17 ∨ w = 18 ∨ w = 19 ∨ w = 20 ∨ w = 21 ∨ w = 22 ∨ w = 23 ∨ w = 24 ∨ w = 25 by omega) with rfl | rfl | rfl | rfl | rfl | rfl | rfl | rfl | rfl | rfl | rfl | rfl | rfl | rfl | rfl | rfl | rfl | rfl | rfl | rfl | rfl | rfl | rfl | rfl | rfl | rfl
            · exact lv_tableIn (off := 120) (tgt := 152) hx hb dL_law_32 (by decide) (by decide) (by decide) (by decide) (lw_write kx hK hX hbl hbA hA hf hS hI hn hl hs next)
            · exact lv_tableIn (off := 143) (tgt := 175) hx hb dL_law_32 (by decide) (by decide) (by decide) (by decide) (lw_wipe kx hK hX hbl hbA hA hf hS hI hn hl hs next)
            · exact lv_tableIn (off := 156) (tgt := 188) hx hb dL_law_32 (by decide) (by decide) (by decide) (by decide) (lw_fault kx hK hX hbl hbA hA hf hS hI hn hl hs next)
            · exact lv_tableIn (off := 169) (tgt := 201) hx hb dL_law_32 (by decide) (by decide) (by decide) (by decide) (lw_link kx hK hX hbl hbA hA hf hS hI hn hl hs next)
            · exact lv_tableIn (off := 182) (tgt := 214) hx hb dL_law_32 (by decide) (by decide) (by decide) (by decide) (lw_end kx hK hX hbl hbA hA hf hS hI hn hl hs next)
            · exact lv_tableIn (off := 215) (tgt := 247) hx hb dL_law_32 (by decide) (by decide) (by decide) (by decide) (lw_known kx hK hX hbl hbA hA hf hS hI hn hl hs next)
            · exact lv_tableIn (off := 248) (tgt := 280) hx hb dL_law_32 (by decide) (by decide) (by decide) (by decide) (lw_way kx hK hX hbl hbA hA hf hS hI hn hl hs next)
            · exact lv_tableIn (off := 281) (tgt := 313) hx hb dL_law_32 (by decide) (by decide) (by decide) (by decide) (lw_pass kx hK hX hbl hbA hA hf hS hI hn hl hs next)
            · exact lv_tableIn (off := 304) (tgt := 336) hx hb dL_law_32 (by decide) (by decide) (by decide) (by decide) (lw_tell kx hK hX hbl hbA hA hf hS hI hn hl hs next)
            · exact lv_tableIn (off := 347) (tgt := 379) hx hb dL_law_32 (by decide) (by decide) (by decide) (by decide) (lw_demand kx hK hX hbl hbA hA hf hS hI hn hl hs next)
            · exact lv_tableIn (off := 370) (tgt := 402) hx hb dL_law_32 (by decide) (by decide) (by decide) (by decide) (lw_turn kx hK hX hbl hbA hA hf hS hI hn hl hs next)
            · exact lv_tableIn (off := 393) (tgt := 425) hx hb dL_law_32 (by decide) (by decide) (by decide) (by decide) (lw_poll kx hK hX hbl hbA hA hf hS hI hn hl hs next)
            · exact lv_tableIn (off := 416) (tgt := 448) hx hb dL_law_32 (by decide) (by decide) (by decide) (by decide) (lw_undo kx hK hX hbl hbA hA hf hS hI hn hl hs next)
            · exact lv_tableIn (off := 429) (tgt := 461) hx hb dL_law_32 (by decide) (by decide) (by decide) (by decide) (lw_ahead kx hK hX hbl hbA hA hf hS hI hn hl hs next)
            · exact lv_tableIn (off := 462) (tgt := 494) hx hb dL_law_32 (by decide) (by decide) (by decide) (by decide) (lw_letters kx hK hX hbl hbA hA hf hS hI hn hl hs next)
            · exact lv_tableIn (off := 485) (tgt := 517) hx hb dL_law_32 (by decide) (by decide) (by decide) (by decide) (lw_judge kx hK hX hbl hbA hA hf hS hI hn hl hs next)
            · exact lv_tableIn (off := 548) (tgt := 580) hx hb dL_law_32 (by decide) (by decide) (by decide) (by decide) (lw_see kx hK hX hbl hbA hA hf hS hI hn hl hs next)
            · exact lv_tableIn (off := 591) (tgt := 623) hx hb dL_law_32 (by decide) (by decide) (by decide) (by decide) (lw_unsee kx hK hX hbl hbA hA hf hS hI hn hl hs next)
            · exact lv_tableIn (off := 604) (tgt := 636) hx hb dL_law_32 (by decide) (by decide) (by decide) (by decide) (lw_which kx hK hX hbl hbA hA hf hS hI hn hl hs next)
            · exact lv_tableIn (off := 617) (tgt := 649) hx hb dL_law_32 (by decide) (by decide) (by decide) (by decide) (lw_share kx hK hX hbl hbA hA hf hS hI hn hl hs next)
            · exact lv_tableIn (off := 666) (tgt := 698) hx hb dL_law_32 (by decide) (by decide) (by decide) (by decide) (lw_luck kx hK hX hbl hbA hA hf hS hI hn hl hs next)
            · exact lv_tableIn (off := 725) (tgt := 757) hx hb dL_law_32 (by decide) (by decide) (by decide) (by decide) (lw_seed kx hK hX hbl hbA hA hf hS hI hn hl hs next)
            · exact lv_tableIn (off := 779) (tgt := 811) hx hb dL_law_32 (by decide) (by decide) (by decide) (by decide) (lw_drawn kx hK hX hbl hbA hA hf hS hI hn hl hs next)
            · exact lv_tableIn (off := 802) (tgt := 834) hx hb dL_law_32 (by decide) (by decide) (by decide) (by decide) (lw_keep kx hK hX hbl hbA hA hf hS hI hn hl hs next)
            · exact lv_tableIn (off := 825) (tgt := 857) hx hb dL_law_32 (by decide) (by decide) (by decide) (by decide) (lw_again kx hK hX hbl hbA hA hf hS hI hn hl hs next)
            · exact lv_tableIn (off := 848) (tgt := 880) hx hb dL_law_32 (by decide) (by decide) (by decide) (by decide) (lw_count kx hK hX hbl hbA hA hf hS hI hn hl hs next)
set_option maxHeartbeats 4000000 in
set_option maxRecDepth 100000 in
theorem whole_start {p : Program} {e : Env} {s : State} {m : MethodId} {below : List Frame} {meth : Method} {c : Code} (l : Launch) (hflags : l.flags = flags0) {b L : Nat} {xs : Nat → Int32} (hL : L ≤ 2048) (C0 : lw_At p s m meth c b L xs) : W p l e room_1 s m #[Value.ref b] below meth c s.heap [] 0 0 (lw_Z below #[Value.ref b] s) (entryFrame m ([Value.ref b] : List Value).toArray 4) := by
  obtain ⟨hx, hb, hr, hml, hown, hts, hX, hbl, hlocks, hgv⟩ := id C0
  obtain ⟨G, hK⟩ := lwGk hts
  have ht : ∀ w ∈ kW, w.before #[Value.ref b] s = true := fun w h => hts w (List.mem_filter.mp h).1
  have kx : kX p s m #[Value.ref b] meth c cL_law 4 ret RL := ⟨hx, hb, hml, hr, hown, hlocks, ht⟩
  have hA : ∀ q : Nat, s.heap.size ≤ q → (fun q : Nat => s.heap.size ≤ q) q := fun _ h => h
  have hS : va_S (fun q : Nat => s.heap.size ≤ q) s.heap s.heap [] := va_S.rf
  have hP : va_P G.1 vwCl [] s.heap := fun k q h => by simp at h
  have hD : va_D (fun q : Nat => s.heap.size ≤ q) [] := ⟨fun i j p q h => by simp at h, fun k q h => by simp at h⟩
  have hl := lv_entry ([.ref b]) (n := 4) (Nat.le_of_ble_eq_true rfl)
  rw [lg_entry_eq]
  generalize (lg_sl ([.ref b]) ++ List.replicate (4 - (lg_sl ([.ref b])).length) Slot.unset).toArray = ls at hl ⊢
  have hl : lv_has ls 4 [(0, .ref b)] := hl
  refine va_new (ci := 6) (fs := [.null, .null, .null, .null, .int 0, .null, .null, .null, .long 0]) (C := RX6) (T := TX6) (N := 9) hx hb ht inX6 tyX6 tyX6_ok hown (ht _ q_39) (ht _ q_40) (ht _ q_29) hK.1 hP hD hS hA rfl zX6 (Nat.le_of_ble_eq_true rfl) (Nat.le_of_ble_eq_true rfl) dL_law_0 (fun h0 H hP hD hS => ?_)
  have hP : va_P G.1 vwCl ([] ++ [(h0, .inr (6, [.null, .null, .null, .null, .int 0, .null, .null, .null, .long 0]))]) H := hP
  have hD : va_D (fun q : Nat => s.heap.size ≤ q) ([] ++ [(h0, .inr (6, [.null, .null, .null, .null, .int 0, .null, .null, .null, .long 0]))]) := hD
  refine lv_dup hx hb dL_law_3 rfl ?_
  refine k_callnew (pre := []) (wc := [(h0, .inr (6, [.null, .null, .null, .null, .int 0, .null, .null, .null, .long 0]))]) (kRunI (As := []) (rest := [.ref h0]) kx (c_X6_init l G h0) q_43 q_41 q_29 q_42 rfl nX6_init ⟨(Nat.le_of_ble_eq_true rfl), (Nat.le_of_ble_eq_true rfl)⟩ hK hP hD rfl hl.1 (Nat.le_of_ble_eq_true rfl) dL_law_4 ⟨(Nat.le_of_ble_eq_true rfl), (Nat.le_of_ble_eq_true rfl)⟩) hP hD hS hA (fun u H locs hw hP hD hS => ?_)
  have hP : va_P G.1 vwCl (cAll G 14 0 0 h0 (u.1 0) (u.1 1) (u.1 2) (u.1 3) (u.1 4) (u.1 5) (u.1 6) (u.1 7) (u.1 8) u.2.1 u.2.2.1 u.2.2.2.1 u.2.2.2.2.1 (fun i => i) u.2.2.2.2.2 0 (fun _ => 0) (fun _ => 0) 0 (fun _ => 0) (fun _ => 0) (fun _ => 0) kG0 kG0 kG0 kG0 (fun _ => kG0)) H := hP
  have hD : va_D (fun q : Nat => s.heap.size ≤ q) (cAll G 14 0 0 h0 (u.1 0) (u.1 1) (u.1 2) (u.1 3) (u.1 4) (u.1 5) (u.1 6) (u.1 7) (u.1 8) u.2.1 u.2.2.1 u.2.2.2.1 u.2.2.2.2.1 (fun i => i) u.2.2.2.2.2 0 (fun _ => 0) (fun _ => 0) 0 (fun _ => 0) (fun _ => 0) (fun _ => 0) kG0 kG0 kG0 kG0 (fun _ => kG0)) := hD
  obtain ⟨n9, h14⟩ : ∃ k : Nat, k = 14 := ⟨_, rfl⟩
  rw [← h14] at hP hD
  refine lv_astore_n (lv' := [(1, .ref h0), (0, .ref b)]) hx hb dL_law_7 rfl hl (by decide) rfl (fun ls1 hl1 => ?_)
  refine va_new (ci := 7) (fs := [.int 0, .null, .int 0, .int 0, .null, .null, .int 0, .null, .null, .null, .int 0, .null, .null, .int 0, .null, .null, .null, .long 0, .int 0, .int 0, .int 0, .int 0]) (C := RX7) (T := TX7) (N := 22) hx hb ht inX7 tyX7 tyX7_ok hown (ht _ q_657) (ht _ q_658) (ht _ q_36) hK.1 hP hD hS hA rfl zX7 (Nat.le_of_ble_eq_true rfl) (Nat.le_of_ble_eq_true rfl) dL_law_8 (fun h7 H hP hD hS => ?_)
  refine lv_dup hx hb dL_law_11 rfl ?_
  refine k_callnew (pre := cAll G n9 0 0 h0 (u.1 0) (u.1 1) (u.1 2) (u.1 3) (u.1 4) (u.1 5) (u.1 6) (u.1 7) (u.1 8) u.2.1 u.2.2.1 u.2.2.2.1 u.2.2.2.2.1 (fun i => i) u.2.2.2.2.2 0 (fun _ => 0) (fun _ => 0) 0 (fun _ => 0) (fun _ => 0) (fun _ => 0) kG0 kG0 kG0 kG0 (fun _ => kG0)) (wc := [(h7, .inr (7, [.int 0, .null, .int 0, .int 0, .null, .null, .int 0, .null, .null, .null, .int 0, .null, .null, .int 0, .null, .null, .null, .long 0, .int 0, .int 0, .int 0, .int 0]))]) (kRunI (As := []) (rest := [.ref h7]) kx (c_X7_init l G h7) q_661 q_659 q_36 q_660 rfl nX7_init ⟨(Nat.le_of_ble_eq_true rfl), (Nat.le_of_ble_eq_true rfl)⟩ hK (kP_r (a := cAll G n9 0 0 h0 (u.1 0) (u.1 1) (u.1 2) (u.1 3) (u.1 4) (u.1 5) (u.1 6) (u.1 7) (u.1 8) u.2.1 u.2.2.1 u.2.2.2.1 u.2.2.2.2.1 (fun i => i) u.2.2.2.2.2 0 (fun _ => 0) (fun _ => 0) 0 (fun _ => 0) (fun _ => 0) (fun _ => 0) kG0 kG0 kG0 kG0 (fun _ => kG0)) hP) (kD_r (a := cAll G n9 0 0 h0 (u.1 0) (u.1 1) (u.1 2) (u.1 3) (u.1 4) (u.1 5) (u.1 6) (u.1 7) (u.1 8) u.2.1 u.2.2.1 u.2.2.2.1 u.2.2.2.2.1 (fun i => i) u.2.2.2.2.2 0 (fun _ => 0) (fun _ => 0) 0 (fun _ => 0) (fun _ => 0) (fun _ => 0) kG0 kG0 kG0 kG0 (fun _ => kG0)) hD) rfl hl1.1 (Nat.le_of_ble_eq_true rfl) dL_law_12 ⟨(Nat.le_of_ble_eq_true rfl), (Nat.le_of_ble_eq_true rfl)⟩) hP hD hS hA (fun uq H locs hw hP hD hS => ?_)
  have hP : va_P G.1 vwCl (cAll G n9 0 0 h0 (u.1 0) (u.1 1) (u.1 2) (u.1 3) (u.1 4) (u.1 5) (u.1 6) (u.1 7) (u.1 8) u.2.1 u.2.2.1 u.2.2.2.1 u.2.2.2.2.1 (fun i => i) u.2.2.2.2.2 0 (fun _ => 0) (fun _ => 0) 0 (fun _ => 0) (fun _ => 0) (fun _ => 0) kG0 kG0 kG0 kG0 (fun _ => kG0) ++ mAll G (upd (fun _ => 0) 18 (-9)) 0 h7 uq (fun _ => 0) (fun _ => 0) (fun _ => 0) (s_X7_layFirst_f (fun _ => 0)) (fun _ => 0) (fun _ => 0) (fun _ => 0) (fun _ => 0) (fun _ => 0) (fun _ => 0) (fun _ => 0)) H := hP
  have hD : va_D (fun q : Nat => s.heap.size ≤ q) (cAll G n9 0 0 h0 (u.1 0) (u.1 1) (u.1 2) (u.1 3) (u.1 4) (u.1 5) (u.1 6) (u.1 7) (u.1 8) u.2.1 u.2.2.1 u.2.2.2.1 u.2.2.2.2.1 (fun i => i) u.2.2.2.2.2 0 (fun _ => 0) (fun _ => 0) 0 (fun _ => 0) (fun _ => 0) (fun _ => 0) kG0 kG0 kG0 kG0 (fun _ => kG0) ++ mAll G (upd (fun _ => 0) 18 (-9)) 0 h7 uq (fun _ => 0) (fun _ => 0) (fun _ => 0) (s_X7_layFirst_f (fun _ => 0)) (fun _ => 0) (fun _ => 0) (fun _ => 0) (fun _ => 0) (fun _ => 0) (fun _ => 0) (fun _ => 0)) := hD
  refine lv_astore_n (lv' := [(2, .ref h7), (1, .ref h0), (0, .ref b)]) hx hb dL_law_15 rfl hl1 (by decide) rfl (fun ls2 hl2 => ?_)
  refine lv_iconst (v := 0) hx hb dL_law_16 (by decide) ?_
  refine lv_istore_n (lv' := [(3, .int 0), (2, .ref h7), (1, .ref h0), (0, .ref b)]) hx hb dL_law_17 rfl hl2 (by decide) rfl (fun ls3 hl3 => ?_)
  exact lw_loop (n9 := n9) hL C0 hK ⟨(Nat.le_of_ble_eq_true rfl), (Nat.le_of_ble_eq_true rfl)⟩ (L + 1) 0 (by omega) (by omega) H locs ls3 hl3 ⟨_, _, _, _, _, _, _, _, _, _, _, _, _, _, _, _, _, _, _, _, _, _, _, _, _, _, _, rR_0 h14 ⟨rfl, rfl, rfl⟩ (rW_0 _) _ _ _ _ _ _ _ _ _ _ _ _ ⟨rfl, rfl, rfl, rfl⟩, hP, hD⟩ hS
