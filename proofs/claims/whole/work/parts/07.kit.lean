/-! my own rows over the kit's: one list of words for all methods, contracts by a picture of cells, calls that put the callee's cells back in their places -/
abbrev kG : Type := va_G × ClassId × ClassId × ClassId
abbrev kTy (G : kG) : List (ClassId × FieldType) := [(G.2.1, .int), (G.2.2.1, .boolean), (G.2.2.2, .object "StillThere$World")]
/-- the links among nest mates, and that there are arrays of worlds: carried from call to call -/
def kNw (U : State) : Prop := va_Nw (.methodLinkNest RX6 9 yX3_init RX6) U ∧ va_Nw (.methodLinkNest RX5 11 yX0_init RX6) U ∧ va_Nw (.methodLinkNest RX0 11 yX2_init RX6) U ∧ va_Nw (.methodLinkNest RX5 23 yX4_init RX6) U ∧ va_Nw (.methodLinkNest RX4 9 yX2_init RX6) U ∧ va_Nw (.methodLinkNest RX6 39 yX1_init RX6) U ∧ va_Nw (.methodLinkNest RX0 60 yX6_oneIf RX6) U ∧ va_Nw (.methodLinkNest RX2 37 yX6_oneIf RX6) U ∧ va_AO "StillThere$World" U
theorem kNw.warm {s U : State} (hW : s.WarmedH U.vm) (h : kNw s) : kNw U := by
  obtain ⟨h1, h2, h3, h4, h5, h6, h7, h8, h9⟩ := h
  exact ⟨va_Nw.warmM hW h1, va_Nw.warmM hW h2, va_Nw.warmM hW h3, va_Nw.warmM hW h4, va_Nw.warmM hW h5, va_Nw.warmM hW h6, va_Nw.warmM hW h7, va_Nw.warmM hW h8, va_AO.moved hW.alike h9⟩
theorem kNw.same {u U : State} (hv : u.vm = U.vm) (h : kNw u) : kNw U := by
  obtain ⟨h1, h2, h3, h4, h5, h6, h7, h8, h9⟩ := h
  exact ⟨va_Nw.same rfl hv h1, va_Nw.same rfl hv h2, va_Nw.same rfl hv h3, va_Nw.same rfl hv h4, va_Nw.same rfl hv h5, va_Nw.same rfl hv h6, va_Nw.same rfl hv h7, va_Nw.same rfl hv h8, va_AO.moved (by rw [hv]; exact Vm.Alike.refl _) h9⟩
abbrev kK (G : kG) (U : State) : Prop := va_K G.1 vwCl (kTy G) U ∧ kNw U
theorem kK.warm {G : kG} {s U : State} (hW : s.WarmedH U.vm) (h : kK G s) : kK G U := ⟨va_K.moved hW.alike h.1, kNw.warm hW h.2⟩
theorem kK.same {G : kG} {u U : State} (hv : u.vm = U.vm) (h : kK G u) : kK G U := ⟨va_K.moved (by rw [hv]; exact Vm.Alike.refl _) h.1, kNw.same hv h.2⟩
def kr (n : Nat) : Room := { frames := n, cells := 0, slots := 0, locals := 30 * n }
def kb (x : Int32) : Prop := x = 0 ∨ x = 1
theorem kb_n {x : Int32} (h : kb x) : narrow .boolean (.int x) = .int x := by rcases h with rfl | rfl <;> rfl
theorem kb_f {x : Int32} (h : kb x) : fits .boolean (.int x) = true := by rcases h with rfl | rfl <;> rfl
theorem kb0 : kb 0 := Or.inl rfl
theorem kb1 : kb 1 := Or.inr rfl
/-- what a body knows of its machine, its code and the tables -/
def kX (p : Program) (s : State) (m : MethodId) (args : Array Value) (meth : Method) (c : Code) (cc : ByteArray) (nL : Nat) (ret : Option FieldType) (own : String) : Prop :=
  p.tables.exec = Jvm.exec ∧ c.code = cc ∧ c.maxLocals = nL ∧ meth.sig.returnType = ret ∧ s.vm.findClass own = some m.cls ∧ meth.locks = false ∧ ∀ w ∈ kW, w.before args s = true
theorem kpay {args : Array Value} {s : State} (ht : ∀ w ∈ kW, w.before args s = true) {w0 : Cond} (h0 : w0 ∈ kW) : ∀ w ∈ w0 :: kW, ∀ (a' : Array Value) (U : State), s.WarmedH U.vm → w.before a' U = true := by
  intro w hw a' U hW
  have hm : w ∈ kW := by
    rcases List.mem_cons.mp hw with h | h
    · rw [h]; exact h0
    · exact h
  exact word_at hW (kW_good hm) (ht w hm)
/-- of a callee's name: no method handle's, and how many parameters -/
def kN (y : MethodName) (n : Nat) : Prop := y.cls ≠ "java/lang/invoke/MethodHandle" ∧ y.cls ≠ "java/lang/invoke/VarHandle" ∧ (parseMethodDescriptor y.desc).map (fun d => d.parameters.length) = some n
theorem kcB {R : Room} {s : State} {args : Array Value} {own : String} {index : Nat} {y : MethodName} {bytes : ByteArray} {maxL : Nat} {ret : Option FieldType} {k n : Nat} (ht : ∀ w ∈ kW, w.before args s = true) (hc : Cond.code y bytes maxL ret ∈ kW) (hi : Cond.initialized y.cls ∈ kW) (hl : Cond.methodLink own index y ∈ kW) (hd : kN y n) (hR : k + 1 ≤ R.frames ∧ 8 + (maxL + 11) + 30 * k ≤ R.locals) :
    CallB R s args own index y bytes maxL ret (Cond.code y bytes maxL ret :: kW) (kr k) 0 0 n := by
  refine ⟨rfl, rfl, hR.1, hR.2, kpay ht hc, List.mem_cons_self, ht _ hc, ht _ hi, ⟨hd.1, hd.2.1⟩, fun sig h => ?_, ht _ hl⟩
  have h2 := hd.2.2
  rw [h] at h2
  exact (Option.some.inj h2).symm
theorem kcN {R : Room} {s : State} {args : Array Value} {own host : String} {index : Nat} {y : MethodName} {bytes : ByteArray} {maxL : Nat} {ret : Option FieldType} {k n mc ms : Nat} {rm : Room} (ht : ∀ w ∈ kW, w.before args s = true) (hrc : rm.cells = mc) (hrs : rm.slots = ms) (hc : Cond.code y bytes maxL ret ∈ kW) (hi : Cond.initialized y.cls ∈ kW) (hl : va_Nw (.methodLinkNest own index y host) s) (hd : kN y n) (hR : rm.frames + 1 ≤ R.frames ∧ 8 + (maxL + 11) + rm.locals ≤ R.locals) :
    va_CN R s args own index y host bytes maxL ret (Cond.code y bytes maxL ret :: kW) rm mc ms n := by
  refine ⟨⟨hrc, hrs, hR.1, hR.2, kpay ht hc, List.mem_cons_self⟩, ht _ hc, ht _ hi, ⟨hd.1, hd.2.1⟩, fun sig h => ?_, va_Nw.use rfl hl⟩
  have h2 := hd.2.2
  rw [h] at h2
  exact (Option.some.inj h2).symm
/-! contracts -/
abbrev kPre (G : kG) (ws : va_W) (sz : Nat) (U : State) : Prop := U.heap.size = sz ∧ va_P G.1 vwCl ws U.heap ∧ kK G U ∧ va_D (fun _ => True) ws
abbrev kPost (G : kG) (A : Nat → Prop) (ws : va_W) (t : State) : Prop := va_P G.1 vwCl ws t.heap ∧ kK G t ∧ va_D A ws
def cG (l : Launch) (G : kG) (y : MethodName) (bytes : ByteArray) (maxL : Nat) (ret : Option FieldType) (k : Nat) (av : List Value) (pre : va_W) (Qc : (Nat → Prop) → Array Value → State → Outcome → State → Prop) : Prop :=
  ∀ sz : Nat, Met l y (Cond.code y bytes maxL ret :: kW) (kr k) (va_Pc av (kPre G pre sz)) (Qc (va_A pre sz)) 0 0 (va_A pre sz)
abbrev qV {S : Type} (G : kG) (ok : S → Prop) (post : S → va_W) (A : Nat → Prop) : Array Value → State → Outcome → State → Prop := va_Qv ok (fun u => kPost G A (post u)) A
abbrev qI {S : Type} (G : kG) (ok : Int32 → S → Prop) (post : S → va_W) (A : Nat → Prop) : Array Value → State → Outcome → State → Prop := va_Qi ok (fun u => kPost G A (post u)) A
abbrev qL {S : Type} (G : kG) (ok : Int64 → S → Prop) (post : S → va_W) (A : Nat → Prop) : Array Value → State → Outcome → State → Prop := va_Ql ok (fun u => kPost G A (post u)) A
abbrev qR {S : Type} (G : kG) (ok : Nat → S → Prop) (post : S → va_W) (A : Nat → Prop) : Array Value → State → Outcome → State → Prop := va_Qr (fun _ : S => True) (fun u a t => ok a u ∧ kPost G A (post u) t) A
theorem kblind (G : kG) (av : List Value) (pre : va_W) (sz : Nat) : FrameBlind (va_Pc av (kPre G pre sz)) := fun a U g mk q => by
  obtain ⟨q0, q1, qP, qK, qD⟩ := q
  exact ⟨q0, q1, qP, kK.same (u := U) (U := U.calling g mk a) rfl qK, qD⟩
theorem kintro {l : Launch} {G : kG} {y : MethodName} {bytes : ByteArray} {maxL : Nat} {ret : Option FieldType} {k : Nat} {av : List Value} {pre : va_W} {Qc : (Nat → Prop) → Array Value → State → Outcome → State → Prop} (hy : plainName y.cls = true) (hlen : (lg_sl av).length ≤ maxL)
    (body : ∀ (p : Program) (e : Env) (s : State) (m : MethodId) (args : Array Value) (below : List Frame) (meth : Method) (c : Code) (A : Nat → Prop) (ls : Array Slot), kX p s m args meth c bytes maxL ret y.cls → kK G s → va_P G.1 vwCl pre s.heap → va_D A pre → va_S A s.heap s.heap [] → (∀ q, s.heap.size ≤ q → A q) → lv_has ls maxL (lv_args 0 av) → W p l e (kr k) s m args below meth c s.heap [] 0 0 (MQ below (Qc A) args s 0 0 A) (F0 m 0 ls [])) :
    cG l G y bytes maxL ret k av pre Qc := by
  intro sz
  refine Met.ofW (cc := bytes) (maxL := maxL) (ret := ret) hy rfl ?_
  intro p e s m args below meth c s₁ B hml hv
  obtain ⟨rfl, hsz, hP, hK, hD0⟩ := hv
  subst hsz
  have hts := atoms_spec (ws := Cond.code y bytes maxL ret :: kW) B.pre
  have hl := lv_entry av (n := maxL) hlen
  rw [lg_entry_eq]
  exact body p e s m _ below meth c _ _ ⟨B.exec, B.bytes, hml, B.returns, findClass_of_methodNamed B.named, B.notSynchronized, fun w hw => hts w (List.mem_cons_of_mem _ hw)⟩ hK hP (hD0.self (sz := s.heap.size)) va_S.rf (fun q h => Or.inr h) hl
/-! the callee's cells put back -/
def kset : va_W → List Nat → va_W → va_W
  | ws, i :: is, x :: xs => kset (ws.set i x) is xs
  | ws, _, _ => ws
theorem kset_at : ∀ (is : List Nat) (xs : va_W) (ws : va_W), is.length = xs.length → ∀ (k : Nat) (q : Nat × va_E), (kset ws is xs)[k]? = some q → (k ∉ is ∧ ws[k]? = some q) ∨ ∃ j : Nat, is[j]? = some k ∧ xs[j]? = some q
  | [], [], ws, _, k, q, h => Or.inl ⟨List.not_mem_nil, h⟩
  | [], _ :: _, _, hl, _, _, _ => by simp at hl
  | _ :: _, [], _, hl, _, _, _ => by simp at hl
  | i :: is, x :: xs, ws, hl, k, q, h => by
    rcases kset_at is xs (ws.set i x) (by simpa using hl) k q h with ⟨h1, h2⟩ | ⟨j, h1, h2⟩
    · by_cases hki : k = i
      · subst hki
        by_cases hlt : k < ws.length
        · rw [List.getElem?_set_self hlt] at h2
          exact Or.inr ⟨0, rfl, h2⟩
        · rw [List.getElem?_eq_none (by rw [List.length_set]; omega)] at h2
          cases h2
      · rw [List.getElem?_set_ne (Ne.symm hki)] at h2
        exact Or.inl ⟨fun hm => (List.mem_cons.mp hm).elim hki h1, h2⟩
    · exact Or.inr ⟨j + 1, h1, h2⟩
theorem kjoin {A0 : Nat → Prop} {D : va_G} {cl : List vw_C} {ws wc w1 : va_W} {H H1 : Heap} (hP : va_P D cl ws H) (hD : va_D A0 ws) (isC : List Nat) (hC : isC.map (fun i => ws[i]?) = wc.map some) (hlen : isC.length = w1.length)
    (hk : ∀ q : Nat, q < H.size → ¬ va_A wc H.size q → H1[q]? = H[q]?) (hF : ∀ q, va_A wc H.size q → A0 q) (hP1 : va_P D cl w1 H1) (hD1 : va_D (va_A wc H.size) w1) : va_P D cl (kset ws isC w1) H1 ∧ va_D A0 (kset ws isC w1) := by
  have at' : ∀ (k : Nat) (q : Nat × va_E), wc[k]? = some q → ∃ i, isC[k]? = some i ∧ ws[i]? = some q := by
    intro k q hq
    have h1 : (isC.map (fun i => ws[i]?))[k]? = some (some q) := by rw [hC, List.getElem?_map, hq]; rfl
    rw [List.getElem?_map] at h1
    cases hi : isC[k]? with
    | none => rw [hi] at h1; cases h1
    | some i => rw [hi] at h1; exact ⟨i, rfl, Option.some.inj h1⟩
  have apart : ∀ (k : Nat) (q : Nat × va_E), k ∉ isC → ws[k]? = some q → q.1 < H.size ∧ ¬ va_A wc H.size q.1 := by
    intro k q hn hq
    have hl := (hP k q hq).lt
    refine ⟨hl, fun h => ?_⟩
    rcases h with ⟨k2, e, h⟩ | h
    · obtain ⟨j, h3, h4⟩ := at' k2 (q.1, e) h
      have hij := hD.1 k j q (q.1, e) hq h4 rfl
      subst hij
      exact hn (List.mem_of_getElem? h3)
    · omega
  have key := kset_at isC w1 ws hlen
  refine ⟨fun k q hq => ?_, fun i j x y hx hy hxy => ?_, fun k q hq => ?_⟩
  · rcases key k q hq with ⟨h1, h2⟩ | ⟨j, h1, h2⟩
    · obtain ⟨g1, g2⟩ := apart k q h1 h2
      exact (hP k q h2).kept (hk q.1 g1 g2)
    · exact hP1 j q h2
  · rcases key i x hx with ⟨a1, a2⟩ | ⟨a, a1, a2⟩ <;> rcases key j y hy with ⟨b1, b2⟩ | ⟨b, b1, b2⟩
    · exact hD.1 i j x y a2 b2 hxy
    · exact absurd (by rw [hxy]; exact hD1.2 b y b2) (apart i x a1 a2).2
    · exact absurd (by rw [← hxy]; exact hD1.2 a x a2) (apart j y b1 b2).2
    · have := hD1.1 a b x y a2 b2 hxy
      subst this
      rw [a1] at b1
      exact Option.some.inj b1
  · rcases key k q hq with ⟨h1, h2⟩ | ⟨j, h1, h2⟩
    · exact hD.2 k q h2
    · exact hF _ (hD1.2 j q h2)
/-! a callee's cells among the caller's: where they lie, and how what comes back lies there -/
theorem kapp_l {a b : va_W} {k : Nat} {q : Nat × va_E} (h : a[k]? = some q) : (a ++ b)[k]? = some q := by
  rw [List.getElem?_append_left (List.getElem?_eq_some_iff.mp h).1]; exact h
theorem kapp_r {a b : va_W} {k : Nat} {q : Nat × va_E} (h : b[k]? = some q) : (a ++ b)[a.length + k]? = some q := by
  rw [List.getElem?_append_right (by omega), Nat.add_sub_cancel_left]; exact h
theorem kP_l {D : va_G} {cl : List vw_C} {a b : va_W} {H : Heap} (h : va_P D cl (a ++ b) H) : va_P D cl a H := fun k q hk => h k q (kapp_l hk)
theorem kP_r {D : va_G} {cl : List vw_C} {a b : va_W} {H : Heap} (h : va_P D cl (a ++ b) H) : va_P D cl b H := fun k q hk => h _ q (kapp_r hk)
theorem kD_l {A : Nat → Prop} {a b : va_W} (h : va_D A (a ++ b)) : va_D A a := ⟨fun i j x y hi hj e => h.1 i j x y (kapp_l hi) (kapp_l hj) e, fun k q hk => h.2 k q (kapp_l hk)⟩
theorem kD_r {A : Nat → Prop} {a b : va_W} (h : va_D A (a ++ b)) : va_D A b := ⟨fun i j x y hi hj e => by have := h.1 _ _ x y (kapp_r hi) (kapp_r hj) e; omega, fun k q hk => h.2 _ q (kapp_r hk)⟩
theorem kD_x {A : Nat → Prop} {a b : va_W} (h : va_D A (a ++ b)) : ∀ (i j : Nat) (x y : Nat × va_E), a[i]? = some x → b[j]? = some y → x.1 ≠ y.1 := fun i j x y hi hj e => by
  have h1 := h.1 _ _ x y (kapp_l hi) (kapp_r hj) e
  have h2 := (List.getElem?_eq_some_iff.mp hi).1
  omega
def kApart (wc : va_W) (H : Heap) (w : va_W) : Prop := ∀ (k : Nat) (q : Nat × va_E), w[k]? = some q → q.1 < H.size ∧ ¬ va_A wc H.size q.1
theorem kApart.of {D : va_G} {cl : List vw_C} {wc w : va_W} {H : Heap} (hP : va_P D cl w H) (hx : ∀ (i j : Nat) (x y : Nat × va_E), w[i]? = some x → wc[j]? = some y → x.1 ≠ y.1) : kApart wc H w := by
  intro k q hq
  have hl := (hP k q hq).lt
  refine ⟨hl, fun h => ?_⟩
  rcases h with ⟨k2, e, h⟩ | h
  · exact hx k k2 q (q.1, e) hq h rfl
  · omega
theorem kApart.P {D : va_G} {cl : List vw_C} {wc w : va_W} {H H1 : Heap} (h : kApart wc H w) (hP : va_P D cl w H) (hk : ∀ q : Nat, q < H.size → ¬ va_A wc H.size q → H1[q]? = H[q]?) : va_P D cl w H1 := fun k q hq => (hP k q hq).kept (hk q.1 (h k q hq).1 (h k q hq).2)
theorem kApart.x {wc w w1 : va_W} {H : Heap} (h : kApart wc H w) (hD1 : va_D (va_A wc H.size) w1) : ∀ (i j : Nat) (x y : Nat × va_E), w[i]? = some x → w1[j]? = some y → x.1 ≠ y.1 := fun i j x y hi hj e => (h i x hi).2 (by rw [e]; exact hD1.2 j y hj)
/-- wc lies in ws; F puts other cells in its place -/
def kCtx (ws wc : va_W) (F : va_W → va_W) : Prop := ∀ (D : va_G) (cl : List vw_C) (A0 : Nat → Prop) (H : Heap), va_P D cl ws H → va_D A0 ws → va_P D cl wc H ∧ va_D A0 wc ∧ ∀ (H1 : Heap) (w1 : va_W), wc.length = w1.length → (∀ q : Nat, q < H.size → ¬ va_A wc H.size q → H1[q]? = H[q]?) → (∀ q, va_A wc H.size q → A0 q) → va_P D cl w1 H1 → va_D (va_A wc H.size) w1 → va_P D cl (F w1) H1 ∧ va_D A0 (F w1)
theorem kCtx_all (ws : va_W) : kCtx ws ws (fun w => w) := fun D cl A0 H hP hD => ⟨hP, hD, fun H1 w1 _ _ hF hP1 hD1 => ⟨hP1, hD1.weaken (fun _ q _ h => hF q.1 h)⟩⟩
theorem kCtx_nil (ws : va_W) : kCtx ws [] (fun _ => ws) := fun D cl A0 H hP hD => ⟨fun k q h => by simp at h, ⟨fun i j p q h => by simp at h, fun k q h => by simp at h⟩, fun H1 w1 _ hk _ _ _ => ⟨fun k q hq => (hP k q hq).kept (hk q.1 (hP k q hq).lt (fun h => by
  rcases h with ⟨k2, e, h⟩ | h
  · simp at h
  · have := (hP k q hq).lt; omega)), hD⟩⟩
theorem kCtx_end (p wc : va_W) : kCtx (p ++ wc) wc (fun w => p ++ w) := by
  intro D cl A0 H hP hD
  refine ⟨kP_r hP, kD_r hD, fun H1 w1 _ hk hF hP1 hD1 => ?_⟩
  have ap : kApart wc H p := kApart.of (kP_l hP) (kD_x hD)
  exact ⟨va_P.app (ap.P (kP_l hP) hk) hP1, va_D.app (kD_l hD) (hD1.weaken (fun _ q _ h => hF q.1 h)) (ap.x hD1)⟩
theorem kCtx_front (wc r : va_W) : kCtx (wc ++ r) wc (fun w => w ++ r) := by
  intro D cl A0 H hP hD
  refine ⟨kP_l hP, kD_l hD, fun H1 w1 _ hk hF hP1 hD1 => ?_⟩
  have ar : kApart wc H r := kApart.of (kP_r hP) (fun i j x y hx hy e => kD_x hD j i y x hy hx e.symm)
  exact ⟨va_P.app hP1 (ar.P (kP_r hP) hk), va_D.app (hD1.weaken (fun _ q _ h => hF q.1 h)) (kD_r hD) (fun i j x y hx hy e => ar.x hD1 j i y x hy hx e.symm)⟩
theorem kCtx_in {p ws wc : va_W} {F : va_W → va_W} (h : kCtx ws wc F) : kCtx (p ++ ws) wc (fun w => p ++ F w) := by
  intro D cl A0 H hP hD
  obtain ⟨h1, h2, h3⟩ := h D cl A0 H (kP_r hP) (kD_r hD)
  refine ⟨h1, h2, fun H1 w1 hl hk hF hP1 hD1 => ?_⟩
  obtain ⟨g1, g2⟩ := h3 H1 w1 hl hk hF hP1 hD1
  have hx := kD_x hD
  obtain ⟨u1, u2, u3⟩ := h D cl (fun q => ∃ (k : Nat) (y : Nat × va_E), ws[k]? = some y ∧ y.1 = q) H (kP_r hP) ⟨(kD_r hD).1, fun k q hk => ⟨k, q, hk, rfl⟩⟩
  have ap : kApart wc H p := kApart.of (kP_l hP) (fun i j x y hi hj e => by
    obtain ⟨k, z, hz, he⟩ := u2.2 j y hj
    exact hx i k x z hi hz (e.trans he.symm))
  refine ⟨va_P.app (ap.P (kP_l hP) hk) g1, va_D.app (kD_l hD) g2 (fun i j x y hi hj e => ?_)⟩
  have hlx := (ap i x hi)
  obtain ⟨-, v2⟩ := h3 H1 w1 hl hk hF hP1 hD1
  obtain ⟨w1', w2', w3'⟩ := h D cl (fun q => (∃ (k : Nat) (y : Nat × va_E), ws[k]? = some y ∧ y.1 = q) ∨ H.size ≤ q) H (kP_r hP) ⟨(kD_r hD).1, fun k q hk => Or.inl ⟨k, q, hk, rfl⟩⟩
  have := (w3' H1 w1 hl hk (fun q hq => by
    rcases hq with ⟨k, ee, hq⟩ | hq
    · exact w2'.2 k _ hq
    · exact Or.inr hq) hP1 hD1).2.2 j y hj
  rcases this with ⟨k, z, hz, he⟩ | hz
  · exact hx i k x z hi hz (e.trans he.symm)
  · rw [← e] at hz; omega
theorem kCtx_places (ws wc : va_W) (isC : List Nat) (hC : isC.map (fun i => ws[i]?) = wc.map some) (hnd : va_nd isC = true) : kCtx ws wc (fun w => kset ws isC w) := by
  intro D cl A0 H hP hD
  have hl0 : isC.length = wc.length := by
    have := congrArg List.length hC
    simpa using this
  refine ⟨fun k q hq => ?_, hD.sub isC hnd hC, fun H1 w1 hl hk hF hP1 hD1 => kjoin hP hD isC hC (hl0.trans hl) hk hF hP1 hD1⟩
  have h1 : (isC.map (fun i => ws[i]?))[k]? = some (some q) := by rw [hC, List.getElem?_map, hq]; rfl
  rw [List.getElem?_map] at h1
  cases hi : isC[k]? with
  | none => rw [hi] at h1; cases h1
  | some i => rw [hi] at h1; exact hP i q (Option.some.inj h1)
/-- two worlds beside each other, asked for the other way round -/
theorem kCtx_swap (N T r : va_W) : kCtx (N ++ (T ++ r)) (T ++ N) (fun w => w.drop T.length ++ (w.take T.length ++ r)) := by
  intro D cl A0 H hP hD
  have hPN := kP_l hP
  have hPT := kP_l (kP_r hP)
  have hPr := kP_r (kP_r hP)
  have hDN := kD_l hD
  have hDT := kD_l (kD_r hD)
  have hDr := kD_r (kD_r hD)
  have xNT : ∀ (i j : Nat) (x y : Nat × va_E), N[i]? = some x → T[j]? = some y → x.1 ≠ y.1 := fun i j x y hi hj => kD_x hD i j x y hi (kapp_l hj)
  have xNr : ∀ (i j : Nat) (x y : Nat × va_E), N[i]? = some x → r[j]? = some y → x.1 ≠ y.1 := fun i j x y hi hj => kD_x hD i _ x y hi (kapp_r hj)
  have xTr := kD_x (kD_r hD)
  refine ⟨va_P.app hPT hPN, va_D.app hDT hDN (fun i j x y hi hj e => xNT j i y x hj hi e.symm), fun H1 w1 hl hk hF hP1 hD1 => ?_⟩
  have ar : kApart (T ++ N) H r := kApart.of hPr (fun i j x y hx hy e => by
    by_cases hj : j < T.length
    · rw [List.getElem?_append_left hj] at hy
      exact xTr j i y x hy hx e.symm
    · rw [List.getElem?_append_right (by omega)] at hy
      exact xNr _ i y x hy hx e.symm)
  have hw : w1.take T.length ++ w1.drop T.length = w1 := List.take_append_drop _ _
  rw [← hw] at hP1 hD1
  have hD2 := hD1.weaken (B := A0) (fun _ q _ h => hF q.1 h)
  refine ⟨va_P.app (kP_r hP1) (va_P.app (kP_l hP1) (ar.P hPr hk)), va_D.app (kD_r hD2) (va_D.app (kD_l hD2) hDr (fun i j x y hx hy e => ar.x (kD_l hD1) j i y x hy hx e.symm)) (fun i j x y hx hy e => ?_)⟩
  by_cases hj : j < (w1.take T.length).length
  · rw [List.getElem?_append_left hj] at hy
    exact kD_x hD1 j i y x hy hx e.symm
  · rw [List.getElem?_append_right (by omega)] at hy
    exact ar.x (kD_r hD1) _ i y x hy hx e.symm
section KC
variable {p : Program} {l : Launch} {e : Env} {R : Room} {s : State} {m : MethodId} {args : Array Value} {below : List Frame} {meth : Method} {c : Code} {H : Heap} {locs : List Loc} {cells slots : Nat} {Q : State → Prop}
variable {cc bytes : ByteArray} {pc nL maxL index k n : Nat} {ret ret' : Option FieldType} {ls : Array Slot} {rest As : List Value} {G : kG} {A : Nat → Prop} {ws wc pre : va_W} {own C host : String} {y : MethodName} {b : Nat} {Qc : (Nat → Prop) → Array Value → State → Outcome → State → Prop} {Fc : va_W → va_W}
/-- a virtual call of a method with a contract -/
theorem kRunV (X : kX p s m args meth c cc nL ret' own) (hM : cG l G y bytes maxL ret k (.ref b :: As) wc Qc) (hc : Cond.code y bytes maxL ret ∈ kW) (hl : Cond.methodLink own index y ∈ kW) (hi : Cond.initialized y.cls ∈ kW) (hin : Cond.instanceMethod y ∈ kW) (hse : Cond.selects y.cls y y ∈ kW) (hd : kN y n) (hR : k + 1 ≤ R.frames ∧ 8 + (maxL + 11) + 30 * k ≤ R.locals) (hK : kK G s) (hP : va_P G.1 vwCl ws H) (hD : va_D A ws) (hcx : kCtx ws wc Fc) (q0 ci : Nat) {fs : List Value} {qq : vw_C} (hcl : vwCl[ci]? = some qq) (hqq : qq.1 = y.cls) (he : wc[q0]? = some (b, .inr (ci, fs)))
    (hn : As.length = n) (hsize : ls.size = nL) (hW : (rest.map fun v => v.category).sum ≤ 8) (hdg : decode cc pc = .ok (.invokevirtual index, 3)) (hf : cells ≤ R.cells ∧ slots ≤ R.slots) :
    va_Run p l e R s m args below meth c H locs cells slots 0 0 (F0 m pc ls (As.reverse ++ .ref b :: rest)) rest (Qc (va_A wc H.size) (Value.ref b :: As).toArray) (va_A wc H.size) := by
  obtain ⟨hx, hb, hml, hr, hown, hlo, ht⟩ := X
  obtain ⟨hPc, hDc, -⟩ := hcx _ _ _ _ hP hD
  refine va_runV (C := y.cls) (Ts := kW) (n := n) ⟨hx, hb, hml, hown, ht⟩ (hM H.size) ⟨kcB ht hc hi hl hd hR, ht _ hin, ht _ hse⟩ ⟨kblind G _ _ _, ?_, fun U hU hW => ⟨rfl, by rw [hU], by rw [hU]; exact hPc, kK.warm hW hK, hDc.weaken (fun _ _ _ _ => trivial)⟩⟩ rfl hn hsize rfl (lv_room hW) hdg hf
  have := va_recv hK.1 hPc (q0 := q0) hcl he
  rwa [hqq] at this
theorem kRunS (X : kX p s m args meth c cc nL ret' own) (hM : cG l G y bytes maxL ret k As wc Qc) (hc : Cond.code y bytes maxL ret ∈ kW) (hl : Cond.methodLink own index y ∈ kW) (hi : Cond.initialized y.cls ∈ kW) (hst : Cond.static y ∈ kW) (hd : kN y n) (hR : k + 1 ≤ R.frames ∧ 8 + (maxL + 11) + 30 * k ≤ R.locals) (hK : kK G s) (hP : va_P G.1 vwCl ws H) (hD : va_D A ws) (hcx : kCtx ws wc Fc)
    (hn : As.length = n) (hsize : ls.size = nL) (hW : (rest.map fun v => v.category).sum ≤ 8) (hdg : decode cc pc = .ok (.invokestatic index, 3)) (hf : cells ≤ R.cells ∧ slots ≤ R.slots) :
    va_Run p l e R s m args below meth c H locs cells slots 0 0 (F0 m pc ls (As.reverse ++ rest)) rest (Qc (va_A wc H.size) As.toArray) (va_A wc H.size) := by
  obtain ⟨hx, hb, hml, hr, hown, hlo, ht⟩ := X
  obtain ⟨hPc, hDc, -⟩ := hcx _ _ _ _ hP hD
  exact va_runS (own := own) (Ts := kW) (n := n) ⟨hx, hb, hml, hown, ht⟩ (hM H.size) ⟨kcB ht hc hi hl hd hR, ht _ hst⟩ ⟨kblind G _ _ _, fun U hU hW => ⟨rfl, by rw [hU], by rw [hU]; exact hPc, kK.warm hW hK, hDc.weaken (fun _ _ _ _ => trivial)⟩⟩ rfl hn hsize rfl (lv_room hW) hdg hf
theorem kRunSN (X : kX p s m args meth c cc nL ret' own) (hM : cG l G y bytes maxL ret k As wc Qc) (hc : Cond.code y bytes maxL ret ∈ kW) (hl : va_Nw (.methodLinkNest own index y host) s) (hi : Cond.initialized y.cls ∈ kW) (hst : Cond.static y ∈ kW) (hd : kN y n) (hR : k + 1 ≤ R.frames ∧ 8 + (maxL + 11) + 30 * k ≤ R.locals) (hK : kK G s) (hP : va_P G.1 vwCl ws H) (hD : va_D A ws) (hcx : kCtx ws wc Fc)
    (hn : As.length = n) (hsize : ls.size = nL) (hW : (rest.map fun v => v.category).sum ≤ 8) (hdg : decode cc pc = .ok (.invokestatic index, 3)) (hf : cells ≤ R.cells ∧ slots ≤ R.slots) :
    va_Run p l e R s m args below meth c H locs cells slots 0 0 (F0 m pc ls (As.reverse ++ rest)) rest (Qc (va_A wc H.size) As.toArray) (va_A wc H.size) := by
  obtain ⟨hx, hb, hml, hr, hown, hlo, ht⟩ := X
  obtain ⟨hPc, hDc, -⟩ := hcx _ _ _ _ hP hD
  exact va_runSN (own := own) (Ts := kW) (n := n) ⟨hx, hb, hml, hown, ht⟩ (hM H.size) ⟨kcN (k := 0) ht rfl rfl hc hi hl hd hR, ht _ hst, trivial⟩ ⟨kblind G _ _ _, fun U hU hW => ⟨rfl, by rw [hU], by rw [hU]; exact hPc, kK.warm hW hK, hDc.weaken (fun _ _ _ _ => trivial)⟩⟩ rfl hn hsize rfl (lv_room hW) hdg hf
variable {S : Type} {post : S → va_W} {a : Array Value} {st0 : List Value}
theorem kfree (hD : va_D A wc) (hS : va_S A s.heap H locs) (hA : ∀ q, s.heap.size ≤ q → A q) : ∀ q, va_A wc H.size q → A q := by
  intro q h
  rcases h with ⟨k, e, h⟩ | h
  · exact hD.2 k _ h
  · exact hA q (Nat.le_trans hS.1 h)
theorem k_calli {ok : Int32 → S → Prop} (hr : va_Run p l e R s m args below meth c H locs cells slots 0 0 (F0 m pc ls st0) rest (qI G ok post (va_A wc H.size) a) (va_A wc H.size)) (hP : va_P G.1 vwCl ws H) (hD : va_D A ws) (hS : va_S A s.heap H locs) (hA : ∀ q, s.heap.size ≤ q → A q) (hcx : kCtx ws wc Fc) (hlen : ∀ u, wc.length = (post u).length)
    (kk : ∀ (r : Int32) (u : S) (H1 : Heap) (locs1 : List Loc), ok r u → va_P G.1 vwCl (Fc (post u)) H1 → va_D A (Fc (post u)) → va_S A s.heap H1 locs1 → W p l e R s m args below meth c H1 locs1 cells slots Q (F0 m (pc + 3) ls (.int r :: rest))) : W p l e R s m args below meth c H locs cells slots Q (F0 m pc ls st0) := by
  obtain ⟨hPc, hDc, hjn⟩ := hcx _ _ _ _ hP hD
  have hF := kfree hDc hS hA
  refine va_calli hr hS (fun q _ h => hF q h) hF (fun r u t H1 locs1 ht hvm hw hB hz1 hk1 hS1 => ?_)
  obtain ⟨hP1, hK1, hD1⟩ := hB
  rw [ht] at hP1
  obtain ⟨h1, h2⟩ := hjn _ _ (hlen u) hk1 hF hP1 hD1
  exact kk r u H1 locs1 hw h1 h2 hS1
theorem k_calll {ok : Int64 → S → Prop} (hr : va_Run p l e R s m args below meth c H locs cells slots 0 0 (F0 m pc ls st0) rest (qL G ok post (va_A wc H.size) a) (va_A wc H.size)) (hP : va_P G.1 vwCl ws H) (hD : va_D A ws) (hS : va_S A s.heap H locs) (hA : ∀ q, s.heap.size ≤ q → A q) (hcx : kCtx ws wc Fc) (hlen : ∀ u, wc.length = (post u).length)
    (kk : ∀ (r : Int64) (u : S) (H1 : Heap) (locs1 : List Loc), ok r u → va_P G.1 vwCl (Fc (post u)) H1 → va_D A (Fc (post u)) → va_S A s.heap H1 locs1 → W p l e R s m args below meth c H1 locs1 cells slots Q (F0 m (pc + 3) ls (.long r :: rest))) : W p l e R s m args below meth c H locs cells slots Q (F0 m pc ls st0) := by
  obtain ⟨hPc, hDc, hjn⟩ := hcx _ _ _ _ hP hD
  have hF := kfree hDc hS hA
  refine va_calll hr hS (fun q _ h => hF q h) hF (fun r u t H1 locs1 ht hvm hw hB hz1 hk1 hS1 => ?_)
  obtain ⟨hP1, hK1, hD1⟩ := hB
  rw [ht] at hP1
  obtain ⟨h1, h2⟩ := hjn _ _ (hlen u) hk1 hF hP1 hD1
  exact kk r u H1 locs1 hw h1 h2 hS1
theorem k_callv {ok : S → Prop} (hr : va_Run p l e R s m args below meth c H locs cells slots 0 0 (F0 m pc ls st0) rest (qV G ok post (va_A wc H.size) a) (va_A wc H.size)) (hP : va_P G.1 vwCl ws H) (hD : va_D A ws) (hS : va_S A s.heap H locs) (hA : ∀ q, s.heap.size ≤ q → A q) (hcx : kCtx ws wc Fc) (hlen : ∀ u, wc.length = (post u).length)
    (kk : ∀ (u : S) (H1 : Heap) (locs1 : List Loc), ok u → va_P G.1 vwCl (Fc (post u)) H1 → va_D A (Fc (post u)) → va_S A s.heap H1 locs1 → W p l e R s m args below meth c H1 locs1 cells slots Q (F0 m (pc + 3) ls rest)) : W p l e R s m args below meth c H locs cells slots Q (F0 m pc ls st0) := by
  obtain ⟨hPc, hDc, hjn⟩ := hcx _ _ _ _ hP hD
  have hF := kfree hDc hS hA
  refine va_callv hr hS (fun q _ h => hF q h) hF (fun u t H1 locs1 ht hvm hw hB hz1 hk1 hS1 => ?_)
  obtain ⟨hP1, hK1, hD1⟩ := hB
  rw [ht] at hP1
  obtain ⟨h1, h2⟩ := hjn _ _ (hlen u) hk1 hF hP1 hD1
  exact kk u H1 locs1 hw h1 h2 hS1
theorem k_callr {ok : Nat → S → Prop} (hr : va_Run p l e R s m args below meth c H locs cells slots 0 0 (F0 m pc ls st0) rest (qR G ok post (va_A wc H.size) a) (va_A wc H.size)) (hP : va_P G.1 vwCl ws H) (hD : va_D A ws) (hS : va_S A s.heap H locs) (hA : ∀ q, s.heap.size ≤ q → A q) (hcx : kCtx ws wc Fc) (hlen : ∀ u, wc.length = (post u).length)
    (kk : ∀ (r : Nat) (u : S) (H1 : Heap) (locs1 : List Loc), ok r u → va_P G.1 vwCl (Fc (post u)) H1 → va_D A (Fc (post u)) → va_S A s.heap H1 locs1 → W p l e R s m args below meth c H1 locs1 cells slots Q (F0 m (pc + 3) ls (.ref r :: rest))) : W p l e R s m args below meth c H locs cells slots Q (F0 m pc ls st0) := by
  obtain ⟨hPc, hDc, hjn⟩ := hcx _ _ _ _ hP hD
  have hF := kfree hDc hS hA
  refine va_callr hr hS (fun q _ h => hF q h) hF (fun u r t H1 locs1 ht hvm _ hB hz1 hk1 hS1 => ?_)
  obtain ⟨hw, hP1, hK1, hD1⟩ := hB
  rw [ht] at hP1
  obtain ⟨h1, h2⟩ := hjn _ _ (hlen u) hk1 hF hP1 hD1
  exact kk r u H1 locs1 hw h1 h2 hS1
/-! ends -/
theorem k_iret {ok : Int32 → S → Prop} {v : Int32} (X : kX p s m args meth c cc nL (some .int) own) (hK : kK G s) (hP : va_P G.1 vwCl ws H) (hD : va_D A ws) (hS : va_S A s.heap H locs) {u : S} (he : ws = post u) (hok : ok v u) (hdg : decode cc pc = .ok (.ireturn, 1)) : W p l e R s m args below meth c H locs 0 0 (MQ below (qI G ok post A) args s 0 0 A) (F0 m pc ls [.int v]) := by
  obtain ⟨hx, hb, hml, hr, hown, hlocks, ht⟩ := X
  subst he
  exact W.iret (v := v) hx hb hr (fun t ht hW => ⟨⟨v, u, rfl, hok, by rw [ht]; exact hP, kK.warm hW hK, hD⟩, hS.F ht⟩) hS.2.2 hdg
theorem k_zret {ok : Int32 → S → Prop} {v : Int32} (X : kX p s m args meth c cc nL (some .boolean) own) (hK : kK G s) (hP : va_P G.1 vwCl ws H) (hD : va_D A ws) (hS : va_S A s.heap H locs) {u : S} (he : ws = post u) (hok : ok v u) (hv : kb v) (hdg : decode cc pc = .ok (.ireturn, 1)) : W p l e R s m args below meth c H locs 0 0 (MQ below (qI G ok post A) args s 0 0 A) (F0 m pc ls [.int v]) := by
  obtain ⟨hx, hb, hml, hr, hown, hlocks, ht⟩ := X
  subst he
  exact W.zret (v := v) hx hb hr (kb_n hv) (fun t ht hW => ⟨⟨v, u, rfl, hok, by rw [ht]; exact hP, kK.warm hW hK, hD⟩, hS.F ht⟩) hS.2.2 hdg
theorem k_lret {ok : Int64 → S → Prop} {v : Int64} (X : kX p s m args meth c cc nL (some .long) own) (hK : kK G s) (hP : va_P G.1 vwCl ws H) (hD : va_D A ws) (hS : va_S A s.heap H locs) {u : S} (he : ws = post u) (hok : ok v u) (hdg : decode cc pc = .ok (.lreturn, 1)) : W p l e R s m args below meth c H locs 0 0 (MQ below (qL G ok post A) args s 0 0 A) (F0 m pc ls [.long v]) := by
  obtain ⟨hx, hb, hml, hr, hown, hlocks, ht⟩ := X
  subst he
  exact W.lret (v := v) hx hb hr (fun t ht hW => ⟨⟨v, u, rfl, hok, by rw [ht]; exact hP, kK.warm hW hK, hD⟩, hS.F ht⟩) hS.2.2 hdg
theorem k_vret {ok : S → Prop} (X : kX p s m args meth c cc nL none own) (hK : kK G s) (hP : va_P G.1 vwCl ws H) (hD : va_D A ws) (hS : va_S A s.heap H locs) {u : S} (he : ws = post u) (hok : ok u) (hdg : decode cc pc = .ok (.return_, 1)) : W p l e R s m args below meth c H locs 0 0 (MQ below (qV G ok post A) args s 0 0 A) (F0 m pc ls []) := by
  obtain ⟨hx, hb, hml, hr, hown, hlocks, ht⟩ := X
  subst he
  exact W.vret hx hb hr (fun t ht hW => ⟨⟨u, rfl, hok, by rw [ht]; exact hP, kK.warm hW hK, hD⟩, hS.F ht⟩) hS.2.2 hdg
theorem k_aret {ok : Nat → S → Prop} {v : Nat} {cn : String} (X : kX p s m args meth c cc nL (some (.object cn)) own) (hK : kK G s) (hP : va_P G.1 vwCl ws H) (hD : va_D A ws) (hS : va_S A s.heap H locs) {u : S} (he : ws = post u) (hok : ok v u) (hdg : decode cc pc = .ok (.areturn, 1)) : W p l e R s m args below meth c H locs 0 0 (MQ below (qR G ok post A) args s 0 0 A) (F0 m pc ls [.ref v]) := by
  obtain ⟨hx, hb, hml, hr, hown, hlocks, ht⟩ := X
  subst he
  exact W.aret (v := .ref v) hx hb hr (Or.inl ⟨cn, rfl⟩) (Or.inr ⟨v, rfl⟩) (fun t ht hW => ⟨⟨u, v, rfl, trivial, hok, by rw [ht]; exact hP, kK.warm hW hK, hD⟩, hS.F ht⟩) hS.2.2 hdg
/-! small steps -/
theorem k_top {x y : Int32} (h : x = y) (k : W p l e R s m args below meth c H locs cells slots Q (F0 m pc ls (.int y :: rest))) : W p l e R s m args below meth c H locs cells slots Q (F0 m pc ls (.int x :: rest)) := h ▸ k
theorem k_topl {x y : Int64} (h : x = y) (k : W p l e R s m args below meth c H locs cells slots Q (F0 m pc ls (.long y :: rest))) : W p l e R s m args below meth c H locs cells slots Q (F0 m pc ls (.long x :: rest)) := h ▸ k
theorem k_in {i : Int32} {K N : Nat} (hi : i = nI K) (hK : K < N) (hN : N < 2 ^ 31) : vp_in i N := by rw [hi]; exact vp_in_nI hK hN
theorem k_cl {i : Int32} {K N : Nat} (hi : i = nI K) (hK : K < N) (hN : N < 2 ^ 31) : i.toNatClampNeg = K := by rw [hi]; exact nI_clamp (by omega)
theorem k_iald (X : kX p s m args meth c cc nL ret own) (hK : kK G s) (hP : va_P G.1 vwCl ws H) (q0 : Nat) {ra N : Nat} {f : Nat → Int32} (ha : ws[q0]? = some (ra, .inl (G.2.1, N, .inl f))) {i v : Int32} (K : Nat) (hi : i = nI K) (hKN : K < N) (hN : N < 2 ^ 31) (hv : f K = v) (hdg : decode cc pc = .ok (.iaload, 1))
    (kk : W p l e R s m args below meth c H locs cells slots Q (F0 m (pc + 1) ls (.int v :: rest))) : W p l e R s m args below meth c H locs cells slots Q (F0 m pc ls (.int i :: .ref ra :: rest)) := by
  refine va_iald X.1 X.2.1 hK.1 hP q0 0 ha rfl (k_in hi hKN hN) hdg ?_
  rw [k_cl hi hKN hN, hv]
  exact kk
theorem k_zald (X : kX p s m args meth c cc nL ret own) (hK : kK G s) (hP : va_P G.1 vwCl ws H) (q0 : Nat) {ra N : Nat} {f : Nat → Int32} (ha : ws[q0]? = some (ra, .inl (G.2.2.1, N, .inl f))) {i v : Int32} (K : Nat) (hi : i = nI K) (hKN : K < N) (hN : N < 2 ^ 31) (hv : f K = v) (hdg : decode cc pc = .ok (.baload, 1))
    (kk : W p l e R s m args below meth c H locs cells slots Q (F0 m (pc + 1) ls (.int v :: rest))) : W p l e R s m args below meth c H locs cells slots Q (F0 m pc ls (.int i :: .ref ra :: rest)) := by
  refine va_zald X.1 X.2.1 hK.1 hP q0 1 ha rfl (k_in hi hKN hN) hdg ?_
  rw [k_cl hi hKN hN, hv]
  exact kk
theorem k_aald (X : kX p s m args meth c cc nL ret own) (hK : kK G s) (hP : va_P G.1 vwCl ws H) (q0 : Nat) {ra N : Nat} {f : Nat → Option Nat} (ha : ws[q0]? = some (ra, .inl (G.2.2.2, N, .inr (.inr (.inr (.inr f)))))) {i : Int32} {v : Nat} (K : Nat) (hi : i = nI K) (hKN : K < N) (hN : N < 2 ^ 31) (hv : f K = some v) (hdg : decode cc pc = .ok (.aaload, 1))
    (kk : W p l e R s m args below meth c H locs cells slots Q (F0 m (pc + 1) ls (.ref v :: rest))) : W p l e R s m args below meth c H locs cells slots Q (F0 m pc ls (.int i :: .ref ra :: rest)) := by
  refine va_aldq (C := "StillThere$World") X.1 X.2.1 hK.1 hP q0 2 ha rfl (k_in hi hKN hN) hdg ?_
  rw [k_cl hi hKN hN, hv]
  exact kk
theorem k_iast (X : kX p s m args meth c cc nL ret own) (hK : kK G s) (hP : va_P G.1 vwCl ws H) (hD : va_D A ws) (hS : va_S A s.heap H locs) (q0 : Nat) {ra N : Nat} {f : Nat → Int32} (ha : ws[q0]? = some (ra, .inl (G.2.1, N, .inl f))) {i x : Int32} (K : Nat) (hi : i = nI K) (hKN : K < N) (hN : N < 2 ^ 31) (hdg : decode cc pc = .ok (.iastore, 1))
    (kk : ∀ (H1 : Heap) (locs1 : List Loc), va_P G.1 vwCl (ws.set q0 (ra, .inl (G.2.1, N, .inl (upd f K x)))) H1 → va_D A (ws.set q0 (ra, .inl (G.2.1, N, .inl (upd f K x)))) → va_S A s.heap H1 locs1 → W p l e R s m args below meth c H1 locs1 cells slots Q (F0 m (pc + 1) ls rest)) : W p l e R s m args below meth c H locs cells slots Q (F0 m pc ls (.int x :: .int i :: .ref ra :: rest)) := by
  refine va_iast X.1 X.2.1 hK.1 hP hD hS q0 0 ha rfl (k_in hi hKN hN) hdg ?_
  rw [k_cl hi hKN hN]
  exact kk
theorem k_zast (X : kX p s m args meth c cc nL ret own) (hK : kK G s) (hP : va_P G.1 vwCl ws H) (hD : va_D A ws) (hS : va_S A s.heap H locs) (q0 : Nat) {ra N : Nat} {f : Nat → Int32} (ha : ws[q0]? = some (ra, .inl (G.2.2.1, N, .inl f))) {i x : Int32} (K : Nat) (hi : i = nI K) (hKN : K < N) (hN : N < 2 ^ 31) (hx : vp_nar .boolean x = x) (hdg : decode cc pc = .ok (.bastore, 1))
    (kk : ∀ (H1 : Heap) (locs1 : List Loc), va_P G.1 vwCl (ws.set q0 (ra, .inl (G.2.2.1, N, .inl (upd f K x)))) H1 → va_D A (ws.set q0 (ra, .inl (G.2.2.1, N, .inl (upd f K x)))) → va_S A s.heap H1 locs1 → W p l e R s m args below meth c H1 locs1 cells slots Q (F0 m (pc + 1) ls rest)) : W p l e R s m args below meth c H locs cells slots Q (F0 m pc ls (.int x :: .int i :: .ref ra :: rest)) := by
  refine va_zast X.1 X.2.1 hK.1 hP hD hS q0 1 ha rfl (k_in hi hKN hN) hdg ?_
  rw [k_cl hi hKN hN, hx]
  exact kk
theorem k_aast (X : kX p s m args meth c cc nL ret own) (hK : kK G s) (hP : va_P G.1 vwCl ws H) (hD : va_D A ws) (hS : va_S A s.heap H locs) (q0 qk : Nat) {ra N v : Nat} {vs : List Value} {f : Nat → Option Nat} (ha : ws[q0]? = some (ra, .inl (G.2.2.2, N, .inr (.inr (.inr (.inr f)))))) (hv : ws[qk]? = some (v, .inr (5, vs))) {i : Int32} (K : Nat) (hi : i = nI K) (hKN : K < N) (hN : N < 2 ^ 31) (hdg : decode cc pc = .ok (.aastore, 1))
    (kk : ∀ (H1 : Heap) (locs1 : List Loc), va_P G.1 vwCl (ws.set q0 (ra, .inl (G.2.2.2, N, .inr (.inr (.inr (.inr (va_up f K (some v)))))))) H1 → va_D A (ws.set q0 (ra, .inl (G.2.2.2, N, .inr (.inr (.inr (.inr (va_up f K (some v)))))))) → va_S A s.heap H1 locs1 → W p l e R s m args below meth c H1 locs1 cells slots Q (F0 m (pc + 1) ls rest)) : W p l e R s m args below meth c H locs cells slots Q (F0 m pc ls (.ref v :: .int i :: .ref ra :: rest)) := by
  refine va_astq (r := (RX5, TX5, 8)) X.1 X.2.1 hK.1 hP hD hS q0 2 qk 5 ha rfl hv rfl (k_in hi hKN hN) hdg ?_
  rw [k_cl hi hKN hN]
  exact kk
end KC
