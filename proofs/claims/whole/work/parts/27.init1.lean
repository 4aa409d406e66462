/-! constructors: contracts that make cells -/
def kRm (k mc ms : Nat) : Room := { frames := k, cells := mc, slots := ms, locals := 30 * k }
def cN (l : Launch) (G : kG) (y : MethodName) (bytes : ByteArray) (maxL : Nat) (k mc ms : Nat) (av : List Value) (pre : va_W) (Qc : (Nat → Prop) → Array Value → State → Outcome → State → Prop) : Prop :=
  ∀ sz : Nat, Met l y (Cond.code y bytes maxL none :: kW) (kRm k mc ms) (va_Pc av (kPre G pre sz)) (Qc (va_A pre sz)) mc ms (va_A pre sz)
theorem kNintro {l : Launch} {G : kG} {y : MethodName} {bytes : ByteArray} {maxL : Nat} {k mc ms : Nat} {av : List Value} {pre : va_W} {Qc : (Nat → Prop) → Array Value → State → Outcome → State → Prop} (hy : plainName y.cls = true) (hlen : (lg_sl av).length ≤ maxL)
    (body : ∀ (p : Program) (e : Env) (s : State) (m : MethodId) (args : Array Value) (below : List Frame) (meth : Method) (c : Code) (A : Nat → Prop) (ls : Array Slot), kX p s m args meth c bytes maxL none y.cls → meth.name = y.name → kK G s → va_P G.1 vwCl pre s.heap → va_D A pre → va_S A s.heap s.heap [] → (∀ q, s.heap.size ≤ q → A q) → lv_has ls maxL (lv_args 0 av) → W p l e (kRm k mc ms) s m args below meth c s.heap [] 0 0 (MQ below (Qc A) args s mc ms A) (F0 m 0 ls [])) :
    cN l G y bytes maxL k mc ms av pre Qc := by
  intro sz
  refine Met.ofW (cc := bytes) (maxL := maxL) (ret := none) hy rfl ?_
  intro p e s m args below meth c s₁ B hml hv
  obtain ⟨rfl, hsz, hP, hK, hD0⟩ := hv
  subst hsz
  have hts := atoms_spec (ws := Cond.code y bytes maxL none :: kW) B.pre
  have hl := lv_entry av (n := maxL) hlen
  rw [lg_entry_eq]
  exact body p e s m _ below meth c _ _ ⟨B.exec, B.bytes, hml, B.returns, findClass_of_methodNamed B.named, B.notSynchronized, fun w hw => hts w (List.mem_cons_of_mem _ hw)⟩ (name_of_methodNamed B.named B.method).1 hK hP (hD0.self (sz := s.heap.size)) va_S.rf (fun q h => Or.inr h) hl
section KN
variable {p : Program} {l : Launch} {e : Env} {R : Room} {s : State} {m : MethodId} {args : Array Value} {below : List Frame} {meth : Method} {c : Code} {H : Heap} {locs : List Loc} {cells slots : Nat} {Q : State → Prop}
variable {cc bytes : ByteArray} {pc nL maxL index k n mc ms : Nat} {ret ret' : Option FieldType} {ls : Array Slot} {rest As : List Value} {G : kG} {A : Nat → Prop} {ws wc pre : va_W} {own C host : String} {y : MethodName} {b : Nat} {Qc : (Nat → Prop) → Array Value → State → Outcome → State → Prop}
theorem kcBn {n : Nat} (ht : ∀ w ∈ kW, w.before args s = true) (hc : Cond.code y bytes maxL none ∈ kW) (hi : Cond.initialized y.cls ∈ kW) (hl : Cond.methodLink own index y ∈ kW) (hd : kN y n) (hR : k + 1 ≤ R.frames ∧ 8 + (maxL + 11) + 30 * k ≤ R.locals) :
    CallB R s args own index y bytes maxL none (Cond.code y bytes maxL none :: kW) (kRm k mc ms) mc ms n := by
  refine ⟨rfl, rfl, hR.1, hR.2, kpay ht hc, List.mem_cons_self, ht _ hc, ht _ hi, ⟨hd.1, hd.2.1⟩, fun sig h => ?_, ht _ hl⟩
  have h2 := hd.2.2
  rw [h] at h2
  exact (Option.some.inj h2).symm
theorem kRunI (X : kX p s m args meth c cc nL ret' own) (hM : cN l G y bytes maxL k mc ms (.ref b :: As) wc Qc) (hc : Cond.code y bytes maxL none ∈ kW) (hl : Cond.methodLink own index y ∈ kW) (hi : Cond.initialized y.cls ∈ kW) (hin : Cond.instanceMethod y ∈ kW) (hnm : y.name = "<init>") (hd : kN y n) (hR : k + 1 ≤ R.frames ∧ 8 + (maxL + 11) + 30 * k ≤ R.locals) (hK : kK G s) (hPc : va_P G.1 vwCl wc H) (hDc : va_D A wc)
    (hn : As.length = n) (hsize : ls.size = nL) (hW : (rest.map fun v => v.category).sum ≤ 8) (hdg : decode cc pc = .ok (.invokespecial index, 3)) (hf : cells + mc ≤ R.cells ∧ slots + ms ≤ R.slots) :
    va_Run p l e R s m args below meth c H locs cells slots mc ms (F0 m pc ls (As.reverse ++ .ref b :: rest)) rest (Qc (va_A wc H.size) (Value.ref b :: As).toArray) (va_A wc H.size) := by
  obtain ⟨hx, hb, hml, hr, hown, hlo, ht⟩ := X
  exact va_runI (own := own) (Ts := kW) (n := n) ⟨hx, hb, hml, hown, ht⟩ (hM H.size) ⟨kcBn ht hc hi hl hd hR, hnm, ht _ hin⟩ ⟨kblind G _ _ _, fun U hU hW => ⟨rfl, by rw [hU], by rw [hU]; exact hPc, kK.warm hW hK, hDc.weaken (fun _ _ _ _ => trivial)⟩⟩ rfl hn hsize rfl (lv_room hW) hdg hf
theorem kRunIN (X : kX p s m args meth c cc nL ret' own) (hM : cN l G y bytes maxL k mc ms (.ref b :: As) wc Qc) (hc : Cond.code y bytes maxL none ∈ kW) (hl : va_Nw (.methodLinkNest own index y host) s) (hi : Cond.initialized y.cls ∈ kW) (hin : Cond.instanceMethod y ∈ kW) (hnm : y.name = "<init>") (hd : kN y n) (hR : k + 1 ≤ R.frames ∧ 8 + (maxL + 11) + 30 * k ≤ R.locals) (hK : kK G s) (hPc : va_P G.1 vwCl wc H) (hDc : va_D A wc)
    (hn : As.length = n) (hsize : ls.size = nL) (hW : (rest.map fun v => v.category).sum ≤ 8) (hdg : decode cc pc = .ok (.invokespecial index, 3)) (hf : cells + mc ≤ R.cells ∧ slots + ms ≤ R.slots) :
    va_Run p l e R s m args below meth c H locs cells slots mc ms (F0 m pc ls (As.reverse ++ .ref b :: rest)) rest (Qc (va_A wc H.size) (Value.ref b :: As).toArray) (va_A wc H.size) := by
  obtain ⟨hx, hb, hml, hr, hown, hlo, ht⟩ := X
  exact va_runIN (own := own) (host := host) (Ts := kW) (n := n) ⟨hx, hb, hml, hown, ht⟩ (hM H.size) ⟨kcN (k := 0) ht rfl rfl hc hi hl hd hR, hnm, ht _ hin⟩ ⟨kblind G _ _ _, fun U hU hW => ⟨rfl, by rw [hU], by rw [hU]; exact hPc, kK.warm hW hK, hDc.weaken (fun _ _ _ _ => trivial)⟩⟩ rfl hn hsize rfl (lv_room hW) hdg hf
variable {S : Type} {post : S → va_W} {a : Array Value} {st0 : List Value}
theorem k_callnew {ok : S → Prop} (hr : va_Run p l e R s m args below meth c H locs cells slots mc ms (F0 m pc ls st0) rest (qV G ok post (va_A wc H.size) a) (va_A wc H.size)) (hP : va_P G.1 vwCl (pre ++ wc) H) (hD : va_D A (pre ++ wc)) (hS : va_S A s.heap H locs) (hA : ∀ q, s.heap.size ≤ q → A q)
    (kk : ∀ (u : S) (H1 : Heap) (locs1 : List Loc), ok u → va_P G.1 vwCl (pre ++ post u) H1 → va_D A (pre ++ post u) → va_S A s.heap H1 locs1 → W p l e R s m args below meth c H1 locs1 (cells + mc) (slots + ms) Q (F0 m (pc + 3) ls rest)) : W p l e R s m args below meth c H locs cells slots Q (F0 m pc ls st0) := by
  have hDc := kD_r hD
  have hF := kfree hDc hS hA
  refine va_callv hr hS (fun q _ h => hF q h) hF (fun u t H1 locs1 ht hvm hw hB hz1 hk1 hS1 => ?_)
  obtain ⟨hP1, hK1, hD1⟩ := hB
  rw [ht] at hP1
  have ap : kApart wc H pre := kApart.of (kP_l hP) (kD_x hD)
  exact kk u H1 locs1 hw (va_P.app (ap.P (kP_l hP) hk1) hP1) (va_D.app (kD_l hD) (hD1.weaken (fun _ q _ h => hF q.1 h)) (ap.x hD1)) hS1
theorem k_vretN {ok : S → Prop} (X : kX p s m args meth c cc nL none own) (hK : kK G s) (hP : va_P G.1 vwCl ws H) (hD : va_D A ws) (hS : va_S A s.heap H locs) {u : S} (he : ws = post u) (hok : ok u) (hdg : decode cc pc = .ok (.return_, 1)) : W p l e R s m args below meth c H locs mc ms (MQ below (qV G ok post A) args s mc ms A) (F0 m pc ls []) := by
  obtain ⟨hx, hb, hml, hr, hown, hlocks, ht⟩ := X
  subst he
  exact W.vret hx hb hr (fun t ht hW => ⟨⟨u, rfl, hok, by rw [ht]; exact hP, kK.warm hW hK, hD⟩, hS.F ht⟩) hS.2.2 hdg
theorem k_newi (X : kX p s m args meth c cc nL ret own) (hw : Cond.arrayClass .int ∈ kW) (hK : kK G s) (hP : va_P G.1 vwCl ws H) (hD : va_D A ws) (hS : va_S A s.heap H locs) (hA : ∀ q, s.heap.size ≤ q → A q) {N : Nat} {x : Int32} (hn : ¬ x < 0) (hN : x.toNatClampNeg = N) (hb : N * componentBytes .int ≤ 536870912) (hcells : cells + 1 ≤ R.cells) (hslots : slots + N ≤ R.slots) (hdg : decode cc pc = .ok (.newarray .int, 2))
    (kk : ∀ (q : Nat) (H1 : Heap), va_P G.1 vwCl (ws ++ [(q, .inl (G.2.1, N, .inl (fun _ => 0)))]) H1 → va_D A (ws ++ [(q, .inl (G.2.1, N, .inl (fun _ => 0)))]) → va_S A s.heap H1 locs → W p l e R s m args below meth c H1 locs (cells + 1) (slots + N) Q (F0 m (pc + 2) ls (.ref q :: rest))) : W p l e R s m args below meth c H locs cells slots Q (F0 m pc ls (.int x :: rest)) := by
  refine va_newa (atype := .int) (ty := .int) (a0 := (N, .inl (fun _ => 0))) X.1 X.2.1 (X.2.2.2.2.2.2 _ hw) rfl hK.1 hP hD hS hA (fun cA => rfl) hn hN hb hcells hslots hdg (fun q cA H1 hK1 hP1 hD1 hS1 => ?_)
  have e1 : s.vm.findClass ("[" ++ FieldType.int.toString) = some G.2.1 := (hK.1.2 0 _ rfl).2
  have e2 : s.vm.findClass ("[" ++ FieldType.int.toString) = some cA := (hK1.2 (kTy G).length _ rfl).2
  have e : cA = G.2.1 := Option.some.inj (e2.symm.trans e1)
  subst e
  exact kk q H1 hP1 hD1 hS1
theorem k_newz (X : kX p s m args meth c cc nL ret own) (hw : Cond.arrayClass .boolean ∈ kW) (hK : kK G s) (hP : va_P G.1 vwCl ws H) (hD : va_D A ws) (hS : va_S A s.heap H locs) (hA : ∀ q, s.heap.size ≤ q → A q) {N : Nat} {x : Int32} (hn : ¬ x < 0) (hN : x.toNatClampNeg = N) (hb : N * componentBytes .boolean ≤ 536870912) (hcells : cells + 1 ≤ R.cells) (hslots : slots + N ≤ R.slots) (hdg : decode cc pc = .ok (.newarray .boolean, 2))
    (kk : ∀ (q : Nat) (H1 : Heap), va_P G.1 vwCl (ws ++ [(q, .inl (G.2.2.1, N, .inl (fun _ => 0)))]) H1 → va_D A (ws ++ [(q, .inl (G.2.2.1, N, .inl (fun _ => 0)))]) → va_S A s.heap H1 locs → W p l e R s m args below meth c H1 locs (cells + 1) (slots + N) Q (F0 m (pc + 2) ls (.ref q :: rest))) : W p l e R s m args below meth c H locs cells slots Q (F0 m pc ls (.int x :: rest)) := by
  refine va_newa (atype := .boolean) (ty := .boolean) (a0 := (N, .inl (fun _ => 0))) X.1 X.2.1 (X.2.2.2.2.2.2 _ hw) rfl hK.1 hP hD hS hA (fun cA => rfl) hn hN hb hcells hslots hdg (fun q cA H1 hK1 hP1 hD1 hS1 => ?_)
  have e1 : s.vm.findClass ("[" ++ FieldType.boolean.toString) = some G.2.2.1 := (hK.1.2 1 _ rfl).2
  have e2 : s.vm.findClass ("[" ++ FieldType.boolean.toString) = some cA := (hK1.2 (kTy G).length _ rfl).2
  have e : cA = G.2.2.1 := Option.some.inj (e2.symm.trans e1)
  subst e
  exact kk q H1 hP1 hD1 hS1
theorem k_newo (X : kX p s m args meth c cc nL ret own) (hcl : Cond.classLink own index "StillThere$World" ∈ kW) (hK : kK G s) (hP : va_P G.1 vwCl ws H) (hD : va_D A ws) (hS : va_S A s.heap H locs) (hA : ∀ q, s.heap.size ≤ q → A q) {N : Nat} {x : Int32} (hn : ¬ x < 0) (hN : x.toNatClampNeg = N) (hb : N * 4 ≤ 536870912) (hcells : cells + 1 ≤ R.cells) (hslots : slots + N ≤ R.slots) (hdg : decode cc pc = .ok (.anewarray index, 3))
    (kk : ∀ (q : Nat) (H1 : Heap), va_P G.1 vwCl (ws ++ [(q, .inl (G.2.2.2, N, .inr (.inr (.inr (.inr (fun _ => none))))))]) H1 → va_D A (ws ++ [(q, .inl (G.2.2.2, N, .inr (.inr (.inr (.inr (fun _ => none))))))]) → va_S A s.heap H1 locs → W p l e R s m args below meth c H1 locs (cells + 1) (slots + N) Q (F0 m (pc + 3) ls (.ref q :: rest))) : W p l e R s m args below meth c H locs cells slots Q (F0 m pc ls (.int x :: rest)) := by
  refine va_newq (C := "StillThere$World") X.1 X.2.1 X.2.2.2.2.1 (X.2.2.2.2.2.2 _ hcl) hK.2.2.2.2.2.2.2.2.2 hK.1 hP hD hS hA hn hN hb hcells hslots hdg (fun q cA H1 hK1 hP1 hD1 hS1 => ?_)
  obtain ⟨-, kA, comp, -, -, -, e1⟩ := hK.1.2 2 _ rfl
  obtain ⟨-, kA2, comp2, -, -, -, e2⟩ := hK1.2 (kTy G).length _ rfl
  have e : cA = G.2.2.2 := Option.some.inj (e2.symm.trans e1)
  subst e
  exact kk q H1 hP1 hD1 hS1
end KN
theorem arrV_cong {cI : ClassId} {N : Nat} {f g : Nat → Value} (h : ∀ j, j < N → f j = g j) : arrV cI N f = arrV cI N g := by
  unfold arrV
  rw [show (fun j : Fin N => f j.val) = (fun j : Fin N => g j.val) from funext (fun j => h _ j.isLt)]
/-- a row of references may be told by another function that says the same below its length -/
theorem kP_row {D : va_G} {cl : List vw_C} {w1 w2 : va_W} {H : Heap} {a N : Nat} {cA : ClassId} {f g : Nat → Option Nat} (h : ∀ j, j < N → f j = g j) (hP : va_P D cl (w1 ++ ((a, .inl (cA, N, .inr (.inr (.inr (.inr f))))) :: w2)) H) : va_P D cl (w1 ++ ((a, .inl (cA, N, .inr (.inr (.inr (.inr g))))) :: w2)) H := by
  refine va_P.app (kP_l hP) ?_
  have h2 := kP_r hP
  intro k q hk
  cases k with
  | zero =>
    have h3 := h2 0 _ rfl
    have : q = (a, .inl (cA, N, .inr (.inr (.inr (.inr g))))) := (Option.some.inj hk).symm
    subst this
    have e : vp_cell cA (N, .inr (.inr (.inr (.inr f)))) = vp_cell cA (N, .inr (.inr (.inr (.inr g)))) := (show arrV cA N (fun j => va_rf (f j)) = arrV cA N (fun j => va_rf (g j)) from arrV_cong (fun j hj => congrArg va_rf (h j hj)))
    show H[a]? = some (vp_cell cA (N, .inr (.inr (.inr (.inr g)))))
    rw [← e]
    exact h3
  | succ k => exact h2 (k + 1) q hk
theorem kD_row {A : Nat → Prop} {w1 w2 : va_W} {a : Nat} {x y : va_E} (hD : va_D A (w1 ++ ((a, x) :: w2))) : va_D A (w1 ++ ((a, y) :: w2)) := by
  obtain ⟨h1, h2⟩ := kD_pw.mp hD
  have e : (w1 ++ ((a, y) :: w2)).map Prod.fst = (w1 ++ ((a, x) :: w2)).map Prod.fst := by simp
  refine kD_pw.mpr ⟨?_, fun q hq => ?_⟩
  · have := (List.pairwise_map (f := Prod.fst) (R := fun a b : Nat => a ≠ b)).mpr h1
    rw [← e] at this
    exact List.pairwise_map.mp this
  · have hm : q.1 ∈ (w1 ++ ((a, x) :: w2)).map Prod.fst := by rw [← e]; exact List.mem_map_of_mem hq
    obtain ⟨r, hr, hr2⟩ := List.mem_map.mp hm
    rw [← hr2]; exact h2 r hr

theorem zX0 : ∀ j, j < 12 → defaultValue (tyX0 j) = vp_V [.int 0, .int 0, .int 0, .int 0, .int 0, .int 0, .int 0, .int 0, .int 0, .int 0, .int 0, .null] j := by
  intro j hj
  rcases (show j = 0 ∨ j = 1 ∨ j = 2 ∨ j = 3 ∨ j = 4 ∨ j = 5 ∨ j = 6 ∨ j = 7 ∨ j = 8 ∨ j = 9 ∨ j = 10 ∨ j = 11 by omega) with rfl | rfl | rfl | rfl | rfl | rfl | rfl | rfl | rfl | rfl | rfl | rfl <;> rfl
theorem zX1 : ∀ j, j < 4 → defaultValue (tyX1 j) = vp_V [.null, .null, .null, .int 0] j := by
  intro j hj
  rcases (show j = 0 ∨ j = 1 ∨ j = 2 ∨ j = 3 by omega) with rfl | rfl | rfl | rfl <;> rfl
theorem zX2 : ∀ j, j < 5 → defaultValue (tyX2 j) = vp_V [.int 0, .int 0, .int 0, .int 0, .int 0] j := by
  intro j hj
  rcases (show j = 0 ∨ j = 1 ∨ j = 2 ∨ j = 3 ∨ j = 4 by omega) with rfl | rfl | rfl | rfl | rfl <;> rfl
theorem zX3 : ∀ j, j < 2 → defaultValue (tyX3 j) = vp_V [.null, .int 0] j := by
  intro j hj
  rcases (show j = 0 ∨ j = 1 by omega) with rfl | rfl <;> rfl
theorem zX4 : ∀ j, j < 7 → defaultValue (tyX4 j) = vp_V [.int 0, .int 0, .int 0, .int 0, .int 0, .int 0, .null] j := by
  intro j hj
  rcases (show j = 0 ∨ j = 1 ∨ j = 2 ∨ j = 3 ∨ j = 4 ∨ j = 5 ∨ j = 6 by omega) with rfl | rfl | rfl | rfl | rfl | rfl | rfl <;> rfl
theorem zX5 : ∀ j, j < 8 → defaultValue (tyX5 j) = vp_V [.null, .null, .null, .null, .int 0, .int 0, .int 0, .int 0] j := by
  intro j hj
  rcases (show j = 0 ∨ j = 1 ∨ j = 2 ∨ j = 3 ∨ j = 4 ∨ j = 5 ∨ j = 6 ∨ j = 7 by omega) with rfl | rfl | rfl | rfl | rfl | rfl | rfl | rfl <;> rfl
theorem zX6 : ∀ j, j < 9 → defaultValue (tyX6 j) = vp_V [.null, .null, .null, .null, .int 0, .null, .null, .null, .long 0] j := by
  intro j hj
  rcases (show j = 0 ∨ j = 1 ∨ j = 2 ∨ j = 3 ∨ j = 4 ∨ j = 5 ∨ j = 6 ∨ j = 7 ∨ j = 8 by omega) with rfl | rfl | rfl | rfl | rfl | rfl | rfl | rfl | rfl <;> rfl
theorem zX7 : ∀ j, j < 22 → defaultValue (tyX7 j) = vp_V [.int 0, .null, .int 0, .int 0, .null, .null, .int 0, .null, .null, .null, .int 0, .null, .null, .int 0, .null, .null, .null, .long 0, .int 0, .int 0, .int 0, .int 0] j := by
  intro j hj
  rcases (show j = 0 ∨ j = 1 ∨ j = 2 ∨ j = 3 ∨ j = 4 ∨ j = 5 ∨ j = 6 ∨ j = 7 ∨ j = 8 ∨ j = 9 ∨ j = 10 ∨ j = 11 ∨ j = 12 ∨ j = 13 ∨ j = 14 ∨ j = 15 ∨ j = 16 ∨ j = 17 ∨ j = 18 ∨ j = 19 ∨ j = 20 ∨ j = 21 by omega) with rfl | rfl | rfl | rfl | rfl | rfl | rfl | rfl | rfl | rfl | rfl | rfl | rfl | rfl | rfl | rfl | rfl | rfl | rfl | rfl | rfl | rfl <;> rfl
set_option maxHeartbeats 4000000 in
set_option maxRecDepth 100000 in
theorem c_X2_init (l : Launch) (G : kG) (h0 : Nat) (t : Nat → Int32) : cN l G yX2_init cX2_init 1 1 0 0 [.ref h0] ([(h0, .inr (2, cT0 t))]) (qV G (fun _ : Unit => True) (fun _ => [(h0, .inr (2, cT0 t))])) := by
  refine kNintro (by decide) (Nat.le_of_ble_eq_true rfl) ?_
  intro p e s m args below meth c A ls kx hin hK hP hD hS hA hl
  have kx : kX p s m args meth c cX2_init 1 none RX2 := kx
  have hx := kx.1
  have hb := kx.2.1
  have hown := kx.2.2.2.2.1
  have ht := kx.2.2.2.2.2.2
  have hl : lv_has ls 1 [(0, .ref h0)] := hl
  refine lv_aload_n hx hb dX2_init_0 rfl (lv_at hl 0 rfl) ?_
  refine W.objInit hx hb hown (ht _ q_79) (ht _ q_45) (ht _ q_46) rfl (by rw [kx.2.2.1]; exact hl.1) rfl dX2_init_1 (Nat.le_of_ble_eq_true rfl) (Nat.le_of_ble_eq_true rfl) ?_
  refine W.eq (g2 := F0 m 4 ls []) rfl ?_
  refine W.widen (k := 0) (n := 0) (Nat.le_of_ble_eq_true rfl) (Nat.le_of_ble_eq_true rfl) ?_
  exact k_vretN kx hK hP hD hS (u := ()) rfl trivial dX2_init_4
set_option maxHeartbeats 4000000 in
set_option maxRecDepth 100000 in
theorem c_X0_init (l : Launch) (G : kG) (h0 : Nat) : cN l G yX0_init cX0_init 1 2 1 5 [.ref h0] ([(h0, .inr (0, [.int 0, .int 0, .int 0, .int 0, .int 0, .int 0, .int 0, .int 0, .int 0, .int 0, .int 0, .null]))]) (qV G (fun u : Nat => True) (fun u => [(h0, .inr (0, cE (fun _ => 0) u)), (u, .inr (2, cT0 (fun _ => 0)))])) := by
  refine kNintro (by decide) (Nat.le_of_ble_eq_true rfl) ?_
  intro p e s m args below meth c A ls kx hin hK hP hD hS hA hl
  have kx : kX p s m args meth c cX0_init 1 none RX0 := kx
  have hx := kx.1
  have hb := kx.2.1
  have hown := kx.2.2.2.2.1
  have ht := kx.2.2.2.2.2.2
  have hl : lv_has ls 1 [(0, .ref h0)] := hl
  refine lv_aload_n hx hb dX0_init_0 rfl (lv_at hl 0 rfl) ?_
  refine W.objInit hx hb hown (ht _ q_73) (ht _ q_45) (ht _ q_46) rfl (by rw [kx.2.2.1]; exact hl.1) rfl dX0_init_1 (Nat.le_of_ble_eq_true rfl) (Nat.le_of_ble_eq_true rfl) ?_
  refine W.eq (g2 := F0 m 4 ls []) rfl ?_
  refine lv_aload_n hx hb dX0_init_4 rfl (lv_at hl 0 rfl) ?_
  refine va_new (ci := 2) (fs := [.int 0, .int 0, .int 0, .int 0, .int 0]) (C := RX2) (T := TX2) (N := 5) hx hb ht inX2 tyX2 tyX2_ok hown (ht _ q_74) (ht _ q_75) (ht _ q_33) hK.1 hP hD hS hA rfl zX2 (Nat.le_of_ble_eq_true rfl) (Nat.le_of_ble_eq_true rfl) dX0_init_5 (fun q5 H hP hD hS => ?_)
  have hP : va_P G.1 vwCl ([(h0, .inr (0, [.int 0, .int 0, .int 0, .int 0, .int 0, .int 0, .int 0, .int 0, .int 0, .int 0, .int 0, .null])), (q5, .inr (2, [.int 0, .int 0, .int 0, .int 0, .int 0]))]) H := hP
  have hD : va_D A ([(h0, .inr (0, [.int 0, .int 0, .int 0, .int 0, .int 0, .int 0, .int 0, .int 0, .int 0, .int 0, .int 0, .null])), (q5, .inr (2, [.int 0, .int 0, .int 0, .int 0, .int 0]))]) := hD
  refine lv_dup hx hb dX0_init_8 rfl ?_
  refine k_callnew (pre := [(h0, .inr (0, [.int 0, .int 0, .int 0, .int 0, .int 0, .int 0, .int 0, .int 0, .int 0, .int 0, .int 0, .null]))]) (wc := [(q5, .inr (2, [.int 0, .int 0, .int 0, .int 0, .int 0]))]) (kRunIN (As := []) (rest := [.ref q5, .ref h0]) kx (c_X2_init l G q5 (fun _ => 0)) q_78 hK.2.2.2.1 q_33 q_77 rfl nX2_init ⟨(Nat.le_of_ble_eq_true rfl), (Nat.le_of_ble_eq_true rfl)⟩ hK (kP_r (a := [(h0, .inr (0, [.int 0, .int 0, .int 0, .int 0, .int 0, .int 0, .int 0, .int 0, .int 0, .int 0, .int 0, .null]))]) (b := [(q5, .inr (2, [.int 0, .int 0, .int 0, .int 0, .int 0]))]) hP) (kD_r (a := [(h0, .inr (0, [.int 0, .int 0, .int 0, .int 0, .int 0, .int 0, .int 0, .int 0, .int 0, .int 0, .int 0, .null]))]) (b := [(q5, .inr (2, [.int 0, .int 0, .int 0, .int 0, .int 0]))]) hD) rfl hl.1 (Nat.le_of_ble_eq_true rfl) dX0_init_9 ⟨(Nat.le_of_ble_eq_true rfl), (Nat.le_of_ble_eq_true rfl)⟩) hP hD hS hA (fun u9 H locs hw hP hD hS => ?_)
  have hP : va_P G.1 vwCl ([(h0, .inr (0, [.int 0, .int 0, .int 0, .int 0, .int 0, .int 0, .int 0, .int 0, .int 0, .int 0, .int 0, .null])), (q5, .inr (2, cT0 (fun _ => 0)))]) H := hP
  have hD : va_D A ([(h0, .inr (0, [.int 0, .int 0, .int 0, .int 0, .int 0, .int 0, .int 0, .int 0, .int 0, .int 0, .int 0, .null])), (q5, .inr (2, cT0 (fun _ => 0)))]) := hD
  refine va_putF (ci := 0) (v := .ref q5) (ty := .object "StillThere$Tale") (C := RX0) (T := TX0) (N := 12) hx hb ht inX0 tyX0 tyX0_ok nmX0 hown hK.1 hP hD hS 0 rfl rfl 11 (by decide) (ht _ q_128) (fun _ h9 => h9) rfl hin rfl (by decide +kernel) rfl rfl (Nat.le_of_ble_eq_true rfl) dX0_init_12 (fun H locs hP hD hS => ?_)
  have hP : va_P G.1 vwCl ([(h0, .inr (0, [.int 0, .int 0, .int 0, .int 0, .int 0, .int 0, .int 0, .int 0, .int 0, .int 0, .int 0, .ref q5])), (q5, .inr (2, cT0 (fun _ => 0)))]) H := hP
  have hD : va_D A ([(h0, .inr (0, [.int 0, .int 0, .int 0, .int 0, .int 0, .int 0, .int 0, .int 0, .int 0, .int 0, .int 0, .ref q5])), (q5, .inr (2, cT0 (fun _ => 0)))]) := hD
  refine W.widen (k := 1) (n := 5) (Nat.le_of_ble_eq_true rfl) (Nat.le_of_ble_eq_true rfl) ?_
  exact k_vretN kx hK hP hD hS (u := q5) rfl trivial dX0_init_15
set_option maxHeartbeats 4000000 in
set_option maxRecDepth 100000 in
theorem c_X4_init (l : Launch) (G : kG) (h0 : Nat) : cN l G yX4_init cX4_init 1 2 1 5 [.ref h0] ([(h0, .inr (4, [.int 0, .int 0, .int 0, .int 0, .int 0, .int 0, .null]))]) (qV G (fun u : Nat => True) (fun u => [(h0, .inr (4, cY (fun _ => 0) u)), (u, .inr (2, cT0 (fun _ => 0)))])) := by
  refine kNintro (by decide) (Nat.le_of_ble_eq_true rfl) ?_
  intro p e s m args below meth c A ls kx hin hK hP hD hS hA hl
  have kx : kX p s m args meth c cX4_init 1 none RX4 := kx
  have hx := kx.1
  have hb := kx.2.1
  have hown := kx.2.2.2.2.1
  have ht := kx.2.2.2.2.2.2
  have hl : lv_has ls 1 [(0, .ref h0)] := hl
  refine lv_aload_n hx hb dX4_init_0 rfl (lv_at hl 0 rfl) ?_
  refine W.objInit hx hb hown (ht _ q_160) (ht _ q_45) (ht _ q_46) rfl (by rw [kx.2.2.1]; exact hl.1) rfl dX4_init_1 (Nat.le_of_ble_eq_true rfl) (Nat.le_of_ble_eq_true rfl) ?_
  refine W.eq (g2 := F0 m 4 ls []) rfl ?_
  refine lv_aload_n hx hb dX4_init_4 rfl (lv_at hl 0 rfl) ?_
  refine va_new (ci := 2) (fs := [.int 0, .int 0, .int 0, .int 0, .int 0]) (C := RX2) (T := TX2) (N := 5) hx hb ht inX2 tyX2 tyX2_ok hown (ht _ q_161) (ht _ q_75) (ht _ q_33) hK.1 hP hD hS hA rfl zX2 (Nat.le_of_ble_eq_true rfl) (Nat.le_of_ble_eq_true rfl) dX4_init_5 (fun q5 H hP hD hS => ?_)
  have hP : va_P G.1 vwCl ([(h0, .inr (4, [.int 0, .int 0, .int 0, .int 0, .int 0, .int 0, .null])), (q5, .inr (2, [.int 0, .int 0, .int 0, .int 0, .int 0]))]) H := hP
  have hD : va_D A ([(h0, .inr (4, [.int 0, .int 0, .int 0, .int 0, .int 0, .int 0, .null])), (q5, .inr (2, [.int 0, .int 0, .int 0, .int 0, .int 0]))]) := hD
  refine lv_dup hx hb dX4_init_8 rfl ?_
  refine k_callnew (pre := [(h0, .inr (4, [.int 0, .int 0, .int 0, .int 0, .int 0, .int 0, .null]))]) (wc := [(q5, .inr (2, [.int 0, .int 0, .int 0, .int 0, .int 0]))]) (kRunIN (As := []) (rest := [.ref q5, .ref h0]) kx (c_X2_init l G q5 (fun _ => 0)) q_78 hK.2.2.2.2.2.1 q_33 q_77 rfl nX2_init ⟨(Nat.le_of_ble_eq_true rfl), (Nat.le_of_ble_eq_true rfl)⟩ hK (kP_r (a := [(h0, .inr (4, [.int 0, .int 0, .int 0, .int 0, .int 0, .int 0, .null]))]) (b := [(q5, .inr (2, [.int 0, .int 0, .int 0, .int 0, .int 0]))]) hP) (kD_r (a := [(h0, .inr (4, [.int 0, .int 0, .int 0, .int 0, .int 0, .int 0, .null]))]) (b := [(q5, .inr (2, [.int 0, .int 0, .int 0, .int 0, .int 0]))]) hD) rfl hl.1 (Nat.le_of_ble_eq_true rfl) dX4_init_9 ⟨(Nat.le_of_ble_eq_true rfl), (Nat.le_of_ble_eq_true rfl)⟩) hP hD hS hA (fun u9 H locs hw hP hD hS => ?_)
  have hP : va_P G.1 vwCl ([(h0, .inr (4, [.int 0, .int 0, .int 0, .int 0, .int 0, .int 0, .null])), (q5, .inr (2, cT0 (fun _ => 0)))]) H := hP
  have hD : va_D A ([(h0, .inr (4, [.int 0, .int 0, .int 0, .int 0, .int 0, .int 0, .null])), (q5, .inr (2, cT0 (fun _ => 0)))]) := hD
  refine va_putF (ci := 4) (v := .ref q5) (ty := .object "StillThere$Tale") (C := RX4) (T := TX4) (N := 7) hx hb ht inX4 tyX4 tyX4_ok nmX4 hown hK.1 hP hD hS 0 rfl rfl 6 (by decide) (ht _ q_174) (fun _ h9 => h9) rfl hin rfl (by decide +kernel) rfl rfl (Nat.le_of_ble_eq_true rfl) dX4_init_12 (fun H locs hP hD hS => ?_)
  have hP : va_P G.1 vwCl ([(h0, .inr (4, [.int 0, .int 0, .int 0, .int 0, .int 0, .int 0, .ref q5])), (q5, .inr (2, cT0 (fun _ => 0)))]) H := hP
  have hD : va_D A ([(h0, .inr (4, [.int 0, .int 0, .int 0, .int 0, .int 0, .int 0, .ref q5])), (q5, .inr (2, cT0 (fun _ => 0)))]) := hD
  refine W.widen (k := 1) (n := 5) (Nat.le_of_ble_eq_true rfl) (Nat.le_of_ble_eq_true rfl) ?_
  exact k_vretN kx hK hP hD hS (u := q5) rfl trivial dX4_init_15
set_option maxHeartbeats 4000000 in
set_option maxRecDepth 100000 in
theorem c_X3_init (l : Launch) (G : kG) (h0 : Nat) : cN l G yX3_init cX3_init 1 1 1 70 [.ref h0] ([(h0, .inr (3, [.null, .int 0]))]) (qV G (fun u : Nat => True) (fun u => [(h0, .inr (3, cX (kc (nI 0)) u)), (u, .inl (G.2.1, 70, .inl (fun _ => 0)))])) := by
  refine kNintro (by decide) (Nat.le_of_ble_eq_true rfl) ?_
  intro p e s m args below meth c A ls kx hin hK hP hD hS hA hl
  have kx : kX p s m args meth c cX3_init 1 none RX3 := kx
  have hx := kx.1
  have hb := kx.2.1
  have hown := kx.2.2.2.2.1
  have ht := kx.2.2.2.2.2.2
  have hl : lv_has ls 1 [(0, .ref h0)] := hl
  refine lv_aload_n hx hb dX3_init_0 rfl (lv_at hl 0 rfl) ?_
  refine W.objInit hx hb hown (ht _ q_52) (ht _ q_45) (ht _ q_46) rfl (by rw [kx.2.2.1]; exact hl.1) rfl dX3_init_1 (Nat.le_of_ble_eq_true rfl) (Nat.le_of_ble_eq_true rfl) ?_
  refine W.eq (g2 := F0 m 4 ls []) rfl ?_
  refine lv_aload_n hx hb dX3_init_4 rfl (lv_at hl 0 rfl) ?_
  refine lv_bipush (v := 70) hx hb dX3_init_5 (by decide) ?_
  refine k_newi (N := 70) kx q_61 hK hP hD hS hA (by decide) (by decide) (Nat.le_of_ble_eq_true rfl) (Nat.le_of_ble_eq_true rfl) (Nat.le_of_ble_eq_true rfl) dX3_init_7 (fun q7 H hP hD hS => ?_)
  have hP : va_P G.1 vwCl ([(h0, .inr (3, [.null, .int 0])), (q7, .inl (G.2.1, 70, .inl (fun _ => 0)))]) H := hP
  have hD : va_D A ([(h0, .inr (3, [.null, .int 0])), (q7, .inl (G.2.1, 70, .inl (fun _ => 0)))]) := hD
  refine va_putF (ci := 3) (v := .ref q7) (ty := .array .int) (C := RX3) (T := TX3) (N := 2) hx hb ht inX3 tyX3 tyX3_ok nmX3 hown hK.1 hP hD hS 0 rfl rfl 0 (by decide) (ht _ q_53) (fun _ h9 => h9) rfl hin rfl (by decide +kernel) rfl rfl (Nat.le_of_ble_eq_true rfl) dX3_init_9 (fun H locs hP hD hS => ?_)
  have hP : va_P G.1 vwCl ([(h0, .inr (3, [.ref q7, .int 0])), (q7, .inl (G.2.1, 70, .inl (fun _ => 0)))]) H := hP
  have hD : va_D A ([(h0, .inr (3, [.ref q7, .int 0])), (q7, .inl (G.2.1, 70, .inl (fun _ => 0)))]) := hD
  refine W.widen (k := 1) (n := 70) (Nat.le_of_ble_eq_true rfl) (Nat.le_of_ble_eq_true rfl) ?_
  exact k_vretN kx hK hP hD hS (u := q7) rfl trivial dX3_init_12
set_option maxHeartbeats 4000000 in
set_option maxRecDepth 100000 in
theorem c_X1_init (l : Launch) (G : kG) (h0 : Nat) : cN l G yX1_init cX1_init 1 1 3 18 [.ref h0] ([(h0, .inr (1, [.null, .null, .null, .int 0]))]) (qV G (fun u : (Nat × Nat × Nat) => True) (fun u => [(h0, .inr (1, cS (kc (nI 0)) u.1 u.2.1 u.2.2)), (u.1, .inl (G.2.1, 6, .inl (fun _ => 0))), (u.2.1, .inl (G.2.1, 6, .inl (fun _ => 0))), (u.2.2, .inl (G.2.1, 6, .inl (fun _ => 0)))])) := by
  refine kNintro (by decide) (Nat.le_of_ble_eq_true rfl) ?_
  intro p e s m args below meth c A ls kx hin hK hP hD hS hA hl
  have kx : kX p s m args meth c cX1_init 1 none RX1 := kx
  have hx := kx.1
  have hb := kx.2.1
  have hown := kx.2.2.2.2.1
  have ht := kx.2.2.2.2.2.2
  have hl : lv_has ls 1 [(0, .ref h0)] := hl
  refine lv_aload_n hx hb dX1_init_0 rfl (lv_at hl 0 rfl) ?_
  refine W.objInit hx hb hown (ht _ q_247) (ht _ q_45) (ht _ q_46) rfl (by rw [kx.2.2.1]; exact hl.1) rfl dX1_init_1 (Nat.le_of_ble_eq_true rfl) (Nat.le_of_ble_eq_true rfl) ?_
  refine W.eq (g2 := F0 m 4 ls []) rfl ?_
  refine lv_aload_n hx hb dX1_init_4 rfl (lv_at hl 0 rfl) ?_
  refine lv_bipush (v := 6) hx hb dX1_init_5 (by decide) ?_
  refine k_newi (N := 6) kx q_61 hK hP hD hS hA (by decide) (by decide) (Nat.le_of_ble_eq_true rfl) (Nat.le_of_ble_eq_true rfl) (Nat.le_of_ble_eq_true rfl) dX1_init_7 (fun q7 H hP hD hS => ?_)
  have hP : va_P G.1 vwCl ([(h0, .inr (1, [.null, .null, .null, .int 0])), (q7, .inl (G.2.1, 6, .inl (fun _ => 0)))]) H := hP
  have hD : va_D A ([(h0, .inr (1, [.null, .null, .null, .int 0])), (q7, .inl (G.2.1, 6, .inl (fun _ => 0)))]) := hD
  refine va_putF (ci := 1) (v := .ref q7) (ty := .array .int) (C := RX1) (T := TX1) (N := 4) hx hb ht inX1 tyX1 tyX1_ok nmX1 hown hK.1 hP hD hS 0 rfl rfl 0 (by decide) (ht _ q_248) (fun _ h9 => h9) rfl hin rfl (by decide +kernel) rfl rfl (Nat.le_of_ble_eq_true rfl) dX1_init_9 (fun H locs hP hD hS => ?_)
  have hP : va_P G.1 vwCl ([(h0, .inr (1, [.ref q7, .null, .null, .int 0])), (q7, .inl (G.2.1, 6, .inl (fun _ => 0)))]) H := hP
  have hD : va_D A ([(h0, .inr (1, [.ref q7, .null, .null, .int 0])), (q7, .inl (G.2.1, 6, .inl (fun _ => 0)))]) := hD
  refine lv_aload_n hx hb dX1_init_12 rfl (lv_at hl 0 rfl) ?_
  refine lv_bipush (v := 6) hx hb dX1_init_13 (by decide) ?_
  refine k_newi (N := 6) kx q_61 hK hP hD hS hA (by decide) (by decide) (Nat.le_of_ble_eq_true rfl) (Nat.le_of_ble_eq_true rfl) (Nat.le_of_ble_eq_true rfl) dX1_init_15 (fun q15 H hP hD hS => ?_)
  have hP : va_P G.1 vwCl ([(h0, .inr (1, [.ref q7, .null, .null, .int 0])), (q7, .inl (G.2.1, 6, .inl (fun _ => 0))), (q15, .inl (G.2.1, 6, .inl (fun _ => 0)))]) H := hP
  have hD : va_D A ([(h0, .inr (1, [.ref q7, .null, .null, .int 0])), (q7, .inl (G.2.1, 6, .inl (fun _ => 0))), (q15, .inl (G.2.1, 6, .inl (fun _ => 0)))]) := hD
  refine va_putF (ci := 1) (v := .ref q15) (ty := .array .int) (C := RX1) (T := TX1) (N := 4) hx hb ht inX1 tyX1 tyX1_ok nmX1 hown hK.1 hP hD hS 0 rfl rfl 1 (by decide) (ht _ q_249) (fun _ h9 => h9) rfl hin rfl (by decide +kernel) rfl rfl (Nat.le_of_ble_eq_true rfl) dX1_init_17 (fun H locs hP hD hS => ?_)
  have hP : va_P G.1 vwCl ([(h0, .inr (1, [.ref q7, .ref q15, .null, .int 0])), (q7, .inl (G.2.1, 6, .inl (fun _ => 0))), (q15, .inl (G.2.1, 6, .inl (fun _ => 0)))]) H := hP
  have hD : va_D A ([(h0, .inr (1, [.ref q7, .ref q15, .null, .int 0])), (q7, .inl (G.2.1, 6, .inl (fun _ => 0))), (q15, .inl (G.2.1, 6, .inl (fun _ => 0)))]) := hD
  refine lv_aload_n hx hb dX1_init_20 rfl (lv_at hl 0 rfl) ?_
  refine lv_bipush (v := 6) hx hb dX1_init_21 (by decide) ?_
  refine k_newi (N := 6) kx q_61 hK hP hD hS hA (by decide) (by decide) (Nat.le_of_ble_eq_true rfl) (Nat.le_of_ble_eq_true rfl) (Nat.le_of_ble_eq_true rfl) dX1_init_23 (fun q23 H hP hD hS => ?_)
  have hP : va_P G.1 vwCl ([(h0, .inr (1, [.ref q7, .ref q15, .null, .int 0])), (q7, .inl (G.2.1, 6, .inl (fun _ => 0))), (q15, .inl (G.2.1, 6, .inl (fun _ => 0))), (q23, .inl (G.2.1, 6, .inl (fun _ => 0)))]) H := hP
  have hD : va_D A ([(h0, .inr (1, [.ref q7, .ref q15, .null, .int 0])), (q7, .inl (G.2.1, 6, .inl (fun _ => 0))), (q15, .inl (G.2.1, 6, .inl (fun _ => 0))), (q23, .inl (G.2.1, 6, .inl (fun _ => 0)))]) := hD
  refine va_putF (ci := 1) (v := .ref q23) (ty := .array .int) (C := RX1) (T := TX1) (N := 4) hx hb ht inX1 tyX1 tyX1_ok nmX1 hown hK.1 hP hD hS 0 rfl rfl 2 (by decide) (ht _ q_250) (fun _ h9 => h9) rfl hin rfl (by decide +kernel) rfl rfl (Nat.le_of_ble_eq_true rfl) dX1_init_25 (fun H locs hP hD hS => ?_)
  have hP : va_P G.1 vwCl ([(h0, .inr (1, [.ref q7, .ref q15, .ref q23, .int 0])), (q7, .inl (G.2.1, 6, .inl (fun _ => 0))), (q15, .inl (G.2.1, 6, .inl (fun _ => 0))), (q23, .inl (G.2.1, 6, .inl (fun _ => 0)))]) H := hP
  have hD : va_D A ([(h0, .inr (1, [.ref q7, .ref q15, .ref q23, .int 0])), (q7, .inl (G.2.1, 6, .inl (fun _ => 0))), (q15, .inl (G.2.1, 6, .inl (fun _ => 0))), (q23, .inl (G.2.1, 6, .inl (fun _ => 0)))]) := hD
  refine W.widen (k := 3) (n := 18) (Nat.le_of_ble_eq_true rfl) (Nat.le_of_ble_eq_true rfl) ?_
  exact k_vretN kx hK hP hD hS (u := (q7, q15, q23)) rfl trivial dX1_init_28
/-- a world as it is at first -/
def kG0 : Nat → Nat → Int32 := kg (upd (upd (upd (upd (upd (upd (upd (upd (upd (upd (upd (upd (upd (upd (upd (upd (fun _ => 0) 0 1) 1 1) 2 1) 3 1) 4 1) 5 0) 8 0) 9 0) 6 0) 7 0) 10 0) 11 0) 12 1) 13 1) 14 1) 15 0) (upd (upd (upd (upd (upd (upd (upd (upd (upd (upd (upd (upd (upd (upd (upd (upd (fun _ => 0) 0 1) 1 1) 2 1) 3 1) 4 1) 5 0) 8 0) 9 0) 6 0) 7 0) 10 0) 11 0) 12 1) 13 1) 14 1) 15 0) (upd (upd (upd (upd (upd (upd (upd (upd (upd (upd (upd (fun _ => 0) 9 1) 0 0) 6 0) 7 0) 8 0) 10 0) 1 0) 2 1) 3 1) 4 1) 5 0) (upd (upd (upd (upd (upd (upd (upd (upd (upd (upd (upd (fun _ => 0) 9 1) 0 0) 6 0) 7 0) 8 0) 10 0) 1 0) 2 1) 3 1) 4 1) 5 0) (upd (upd (upd (upd (fun _ => 0) 0 0) 1 0) 2 0) 3 0)
theorem kRunVn {p : Program} {l : Launch} {e : Env} {R : Room} {s : State} {m : MethodId} {args : Array Value} {below : List Frame} {meth : Method} {c : Code} {H : Heap} {locs : List Loc} {cells slots : Nat} {cc bytes : ByteArray} {pc nL maxL index k n : Nat} {ret ret' : Option FieldType} {ls : Array Slot} {rest As : List Value} {G : kG} {A : Nat → Prop} {wc : va_W} {own : String} {y : MethodName} {b : Nat} {Qc : (Nat → Prop) → Array Value → State → Outcome → State → Prop}
    (X : kX p s m args meth c cc nL ret' own) (hM : cG l G y bytes maxL ret k (.ref b :: As) wc Qc) (hc : Cond.code y bytes maxL ret ∈ kW) (hl : Cond.methodLink own index y ∈ kW) (hi : Cond.initialized y.cls ∈ kW) (hin : Cond.instanceMethod y ∈ kW) (hse : Cond.selects y.cls y y ∈ kW) (hd : kN y n) (hR : k + 1 ≤ R.frames ∧ 8 + (maxL + 11) + 30 * k ≤ R.locals) (hK : kK G s) (hPc : va_P G.1 vwCl wc H) (hDc : va_D A wc) (q0 ci : Nat) {fs : List Value} {qq : vw_C} (hcl : vwCl[ci]? = some qq) (hqq : qq.1 = y.cls) (he : wc[q0]? = some (b, .inr (ci, fs)))
    (hn : As.length = n) (hsize : ls.size = nL) (hW : (rest.map fun v => v.category).sum ≤ 8) (hdg : decode cc pc = .ok (.invokevirtual index, 3)) (hf : cells ≤ R.cells ∧ slots ≤ R.slots) :
    va_Run p l e R s m args below meth c H locs cells slots 0 0 (F0 m pc ls (As.reverse ++ .ref b :: rest)) rest (Qc (va_A wc H.size) (Value.ref b :: As).toArray) (va_A wc H.size) := kRunV X hM hc hl hi hin hse hd hR hK hPc hDc (kCtx_all wc) q0 ci hcl hqq he hn hsize hW hdg hf
set_option maxHeartbeats 4000000 in
set_option maxRecDepth 100000 in
theorem c_X5_init (l : Launch) (G : kG) (h0 : Nat) : cN l G yX5_init cX5_init 1 3 8 58 [.ref h0] ([(h0, .inr (5, [.null, .null, .null, .null, .int 0, .int 0, .int 0, .int 0]))]) (qV G (fun a : (Nat → Nat) => a 0 = h0) (fun a => cW a kG0)) := by
  refine kNintro (by decide) (Nat.le_of_ble_eq_true rfl) ?_
  intro p e s m args below meth c A ls kx hin hK hP hD hS hA hl
  have kx : kX p s m args meth c cX5_init 1 none RX5 := kx
  have hx := kx.1
  have hb := kx.2.1
  have hown := kx.2.2.2.2.1
  have ht := kx.2.2.2.2.2.2
  have hl : lv_has ls 1 [(0, .ref h0)] := hl
  refine lv_aload_n hx hb dX5_init_0 rfl (lv_at hl 0 rfl) ?_
  refine W.objInit hx hb hown (ht _ q_67) (ht _ q_45) (ht _ q_46) rfl (by rw [kx.2.2.1]; exact hl.1) rfl dX5_init_1 (Nat.le_of_ble_eq_true rfl) (Nat.le_of_ble_eq_true rfl) ?_
  refine W.eq (g2 := F0 m 4 ls []) rfl ?_
  refine lv_aload_n hx hb dX5_init_4 rfl (lv_at hl 0 rfl) ?_
  refine va_new (ci := 0) (fs := [.int 0, .int 0, .int 0, .int 0, .int 0, .int 0, .int 0, .int 0, .int 0, .int 0, .int 0, .null]) (C := RX0) (T := TX0) (N := 12) hx hb ht inX0 tyX0 tyX0_ok hown (ht _ q_68) (ht _ q_69) (ht _ q_32) hK.1 hP hD hS hA rfl zX0 (Nat.le_of_ble_eq_true rfl) (Nat.le_of_ble_eq_true rfl) dX5_init_5 (fun q5 H hP hD hS => ?_)
  have hP : va_P G.1 vwCl ([(h0, .inr (5, [.null, .null, .null, .null, .int 0, .int 0, .int 0, .int 0])), (q5, .inr (0, [.int 0, .int 0, .int 0, .int 0, .int 0, .int 0, .int 0, .int 0, .int 0, .int 0, .int 0, .null]))]) H := hP
  have hD : va_D A ([(h0, .inr (5, [.null, .null, .null, .null, .int 0, .int 0, .int 0, .int 0])), (q5, .inr (0, [.int 0, .int 0, .int 0, .int 0, .int 0, .int 0, .int 0, .int 0, .int 0, .int 0, .int 0, .null]))]) := hD
  refine lv_dup hx hb dX5_init_8 rfl ?_
  refine k_callnew (pre := [(h0, .inr (5, [.null, .null, .null, .null, .int 0, .int 0, .int 0, .int 0]))]) (wc := [(q5, .inr (0, [.int 0, .int 0, .int 0, .int 0, .int 0, .int 0, .int 0, .int 0, .int 0, .int 0, .int 0, .null]))]) (kRunIN (As := []) (rest := [.ref q5, .ref h0]) kx (c_X0_init l G q5) q_72 hK.2.2.1 q_32 q_71 rfl nX0_init ⟨(Nat.le_of_ble_eq_true rfl), (Nat.le_of_ble_eq_true rfl)⟩ hK (kP_r (a := [(h0, .inr (5, [.null, .null, .null, .null, .int 0, .int 0, .int 0, .int 0]))]) (b := [(q5, .inr (0, [.int 0, .int 0, .int 0, .int 0, .int 0, .int 0, .int 0, .int 0, .int 0, .int 0, .int 0, .null]))]) hP) (kD_r (a := [(h0, .inr (5, [.null, .null, .null, .null, .int 0, .int 0, .int 0, .int 0]))]) (b := [(q5, .inr (0, [.int 0, .int 0, .int 0, .int 0, .int 0, .int 0, .int 0, .int 0, .int 0, .int 0, .int 0, .null]))]) hD) rfl hl.1 (Nat.le_of_ble_eq_true rfl) dX5_init_9 ⟨(Nat.le_of_ble_eq_true rfl), (Nat.le_of_ble_eq_true rfl)⟩) hP hD hS hA (fun u9 H locs hw hP hD hS => ?_)
  have hP : va_P G.1 vwCl ([(h0, .inr (5, [.null, .null, .null, .null, .int 0, .int 0, .int 0, .int 0])), (q5, .inr (0, [.int 0, .int 0, .int 0, .int 0, .int 0, .int 0, .int 0, .int 0, .int 0, .int 0, .int 0, .ref u9])), (u9, .inr (2, cT0 (fun _ => 0)))]) H := hP
  have hD : va_D A ([(h0, .inr (5, [.null, .null, .null, .null, .int 0, .int 0, .int 0, .int 0])), (q5, .inr (0, [.int 0, .int 0, .int 0, .int 0, .int 0, .int 0, .int 0, .int 0, .int 0, .int 0, .int 0, .ref u9])), (u9, .inr (2, cT0 (fun _ => 0)))]) := hD
  refine va_putF (ci := 5) (v := .ref q5) (ty := .object "StillThere$End") (C := RX5) (T := TX5) (N := 8) hx hb ht inX5 tyX5 tyX5_ok nmX5 hown hK.1 hP hD hS 0 rfl rfl 0 (by decide) (ht _ q_208) (fun _ h9 => h9) rfl hin rfl (by decide +kernel) rfl rfl (Nat.le_of_ble_eq_true rfl) dX5_init_12 (fun H locs hP hD hS => ?_)
  have hP : va_P G.1 vwCl ([(h0, .inr (5, [.ref q5, .null, .null, .null, .int 0, .int 0, .int 0, .int 0])), (q5, .inr (0, [.int 0, .int 0, .int 0, .int 0, .int 0, .int 0, .int 0, .int 0, .int 0, .int 0, .int 0, .ref u9])), (u9, .inr (2, cT0 (fun _ => 0)))]) H := hP
  have hD : va_D A ([(h0, .inr (5, [.ref q5, .null, .null, .null, .int 0, .int 0, .int 0, .int 0])), (q5, .inr (0, [.int 0, .int 0, .int 0, .int 0, .int 0, .int 0, .int 0, .int 0, .int 0, .int 0, .int 0, .ref u9])), (u9, .inr (2, cT0 (fun _ => 0)))]) := hD
  refine lv_aload_n hx hb dX5_init_15 rfl (lv_at hl 0 rfl) ?_
  refine va_new (ci := 0) (fs := [.int 0, .int 0, .int 0, .int 0, .int 0, .int 0, .int 0, .int 0, .int 0, .int 0, .int 0, .null]) (C := RX0) (T := TX0) (N := 12) hx hb ht inX0 tyX0 tyX0_ok hown (ht _ q_68) (ht _ q_69) (ht _ q_32) hK.1 hP hD hS hA rfl zX0 (Nat.le_of_ble_eq_true rfl) (Nat.le_of_ble_eq_true rfl) dX5_init_16 (fun q16 H hP hD hS => ?_)
  have hP : va_P G.1 vwCl ([(h0, .inr (5, [.ref q5, .null, .null, .null, .int 0, .int 0, .int 0, .int 0])), (q5, .inr (0, [.int 0, .int 0, .int 0, .int 0, .int 0, .int 0, .int 0, .int 0, .int 0, .int 0, .int 0, .ref u9])), (u9, .inr (2, cT0 (fun _ => 0))), (q16, .inr (0, [.int 0, .int 0, .int 0, .int 0, .int 0, .int 0, .int 0, .int 0, .int 0, .int 0, .int 0, .null]))]) H := hP
  have hD : va_D A ([(h0, .inr (5, [.ref q5, .null, .null, .null, .int 0, .int 0, .int 0, .int 0])), (q5, .inr (0, [.int 0, .int 0, .int 0, .int 0, .int 0, .int 0, .int 0, .int 0, .int 0, .int 0, .int 0, .ref u9])), (u9, .inr (2, cT0 (fun _ => 0))), (q16, .inr (0, [.int 0, .int 0, .int 0, .int 0, .int 0, .int 0, .int 0, .int 0, .int 0, .int 0, .int 0, .null]))]) := hD
  refine lv_dup hx hb dX5_init_19 rfl ?_
  refine k_callnew (pre := [(h0, .inr (5, [.ref q5, .null, .null, .null, .int 0, .int 0, .int 0, .int 0])), (q5, .inr (0, [.int 0, .int 0, .int 0, .int 0, .int 0, .int 0, .int 0, .int 0, .int 0, .int 0, .int 0, .ref u9])), (u9, .inr (2, cT0 (fun _ => 0)))]) (wc := [(q16, .inr (0, [.int 0, .int 0, .int 0, .int 0, .int 0, .int 0, .int 0, .int 0, .int 0, .int 0, .int 0, .null]))]) (kRunIN (As := []) (rest := [.ref q16, .ref h0]) kx (c_X0_init l G q16) q_72 hK.2.2.1 q_32 q_71 rfl nX0_init ⟨(Nat.le_of_ble_eq_true rfl), (Nat.le_of_ble_eq_true rfl)⟩ hK (kP_r (a := [(h0, .inr (5, [.ref q5, .null, .null, .null, .int 0, .int 0, .int 0, .int 0])), (q5, .inr (0, [.int 0, .int 0, .int 0, .int 0, .int 0, .int 0, .int 0, .int 0, .int 0, .int 0, .int 0, .ref u9])), (u9, .inr (2, cT0 (fun _ => 0)))]) (b := [(q16, .inr (0, [.int 0, .int 0, .int 0, .int 0, .int 0, .int 0, .int 0, .int 0, .int 0, .int 0, .int 0, .null]))]) hP) (kD_r (a := [(h0, .inr (5, [.ref q5, .null, .null, .null, .int 0, .int 0, .int 0, .int 0])), (q5, .inr (0, [.int 0, .int 0, .int 0, .int 0, .int 0, .int 0, .int 0, .int 0, .int 0, .int 0, .int 0, .ref u9])), (u9, .inr (2, cT0 (fun _ => 0)))]) (b := [(q16, .inr (0, [.int 0, .int 0, .int 0, .int 0, .int 0, .int 0, .int 0, .int 0, .int 0, .int 0, .int 0, .null]))]) hD) rfl hl.1 (Nat.le_of_ble_eq_true rfl) dX5_init_20 ⟨(Nat.le_of_ble_eq_true rfl), (Nat.le_of_ble_eq_true rfl)⟩) hP hD hS hA (fun u20 H locs hw hP hD hS => ?_)
  have hP : va_P G.1 vwCl ([(h0, .inr (5, [.ref q5, .null, .null, .null, .int 0, .int 0, .int 0, .int 0])), (q5, .inr (0, [.int 0, .int 0, .int 0, .int 0, .int 0, .int 0, .int 0, .int 0, .int 0, .int 0, .int 0, .ref u9])), (u9, .inr (2, cT0 (fun _ => 0))), (q16, .inr (0, [.int 0, .int 0, .int 0, .int 0, .int 0, .int 0, .int 0, .int 0, .int 0, .int 0, .int 0, .ref u20])), (u20, .inr (2, cT0 (fun _ => 0)))]) H := hP
  have hD : va_D A ([(h0, .inr (5, [.ref q5, .null, .null, .null, .int 0, .int 0, .int 0, .int 0])), (q5, .inr (0, [.int 0, .int 0, .int 0, .int 0, .int 0, .int 0, .int 0, .int 0, .int 0, .int 0, .int 0, .ref u9])), (u9, .inr (2, cT0 (fun _ => 0))), (q16, .inr (0, [.int 0, .int 0, .int 0, .int 0, .int 0, .int 0, .int 0, .int 0, .int 0, .int 0, .int 0, .ref u20])), (u20, .inr (2, cT0 (fun _ => 0)))]) := hD
  refine va_putF (ci := 5) (v := .ref q16) (ty := .object "StillThere$End") (C := RX5) (T := TX5) (N := 8) hx hb ht inX5 tyX5 tyX5_ok nmX5 hown hK.1 hP hD hS 0 rfl rfl 1 (by decide) (ht _ q_210) (fun _ h9 => h9) rfl hin rfl (by decide +kernel) rfl rfl (Nat.le_of_ble_eq_true rfl) dX5_init_23 (fun H locs hP hD hS => ?_)
  have hP : va_P G.1 vwCl ([(h0, .inr (5, [.ref q5, .ref q16, .null, .null, .int 0, .int 0, .int 0, .int 0])), (q5, .inr (0, [.int 0, .int 0, .int 0, .int 0, .int 0, .int 0, .int 0, .int 0, .int 0, .int 0, .int 0, .ref u9])), (u9, .inr (2, cT0 (fun _ => 0))), (q16, .inr (0, [.int 0, .int 0, .int 0, .int 0, .int 0, .int 0, .int 0, .int 0, .int 0, .int 0, .int 0, .ref u20])), (u20, .inr (2, cT0 (fun _ => 0)))]) H := hP
  have hD : va_D A ([(h0, .inr (5, [.ref q5, .ref q16, .null, .null, .int 0, .int 0, .int 0, .int 0])), (q5, .inr (0, [.int 0, .int 0, .int 0, .int 0, .int 0, .int 0, .int 0, .int 0, .int 0, .int 0, .int 0, .ref u9])), (u9, .inr (2, cT0 (fun _ => 0))), (q16, .inr (0, [.int 0, .int 0, .int 0, .int 0, .int 0, .int 0, .int 0, .int 0, .int 0, .int 0, .int 0, .ref u20])), (u20, .inr (2, cT0 (fun _ => 0)))]) := hD
  refine lv_aload_n hx hb dX5_init_26 rfl (lv_at hl 0 rfl) ?_
  refine va_new (ci := 4) (fs := [.int 0, .int 0, .int 0, .int 0, .int 0, .int 0, .null]) (C := RX4) (T := TX4) (N := 7) hx hb ht inX4 tyX4 tyX4_ok hown (ht _ q_155) (ht _ q_156) (ht _ q_34) hK.1 hP hD hS hA rfl zX4 (Nat.le_of_ble_eq_true rfl) (Nat.le_of_ble_eq_true rfl) dX5_init_27 (fun q27 H hP hD hS => ?_)
  have hP : va_P G.1 vwCl ([(h0, .inr (5, [.ref q5, .ref q16, .null, .null, .int 0, .int 0, .int 0, .int 0])), (q5, .inr (0, [.int 0, .int 0, .int 0, .int 0, .int 0, .int 0, .int 0, .int 0, .int 0, .int 0, .int 0, .ref u9])), (u9, .inr (2, cT0 (fun _ => 0))), (q16, .inr (0, [.int 0, .int 0, .int 0, .int 0, .int 0, .int 0, .int 0, .int 0, .int 0, .int 0, .int 0, .ref u20])), (u20, .inr (2, cT0 (fun _ => 0))), (q27, .inr (4, [.int 0, .int 0, .int 0, .int 0, .int 0, .int 0, .null]))]) H := hP
  have hD : va_D A ([(h0, .inr (5, [.ref q5, .ref q16, .null, .null, .int 0, .int 0, .int 0, .int 0])), (q5, .inr (0, [.int 0, .int 0, .int 0, .int 0, .int 0, .int 0, .int 0, .int 0, .int 0, .int 0, .int 0, .ref u9])), (u9, .inr (2, cT0 (fun _ => 0))), (q16, .inr (0, [.int 0, .int 0, .int 0, .int 0, .int 0, .int 0, .int 0, .int 0, .int 0, .int 0, .int 0, .ref u20])), (u20, .inr (2, cT0 (fun _ => 0))), (q27, .inr (4, [.int 0, .int 0, .int 0, .int 0, .int 0, .int 0, .null]))]) := hD
  refine lv_dup hx hb dX5_init_30 rfl ?_
  refine k_callnew (pre := [(h0, .inr (5, [.ref q5, .ref q16, .null, .null, .int 0, .int 0, .int 0, .int 0])), (q5, .inr (0, [.int 0, .int 0, .int 0, .int 0, .int 0, .int 0, .int 0, .int 0, .int 0, .int 0, .int 0, .ref u9])), (u9, .inr (2, cT0 (fun _ => 0))), (q16, .inr (0, [.int 0, .int 0, .int 0, .int 0, .int 0, .int 0, .int 0, .int 0, .int 0, .int 0, .int 0, .ref u20])), (u20, .inr (2, cT0 (fun _ => 0)))]) (wc := [(q27, .inr (4, [.int 0, .int 0, .int 0, .int 0, .int 0, .int 0, .null]))]) (kRunIN (As := []) (rest := [.ref q27, .ref h0]) kx (c_X4_init l G q27) q_159 hK.2.2.2.2.1 q_34 q_158 rfl nX4_init ⟨(Nat.le_of_ble_eq_true rfl), (Nat.le_of_ble_eq_true rfl)⟩ hK (kP_r (a := [(h0, .inr (5, [.ref q5, .ref q16, .null, .null, .int 0, .int 0, .int 0, .int 0])), (q5, .inr (0, [.int 0, .int 0, .int 0, .int 0, .int 0, .int 0, .int 0, .int 0, .int 0, .int 0, .int 0, .ref u9])), (u9, .inr (2, cT0 (fun _ => 0))), (q16, .inr (0, [.int 0, .int 0, .int 0, .int 0, .int 0, .int 0, .int 0, .int 0, .int 0, .int 0, .int 0, .ref u20])), (u20, .inr (2, cT0 (fun _ => 0)))]) (b := [(q27, .inr (4, [.int 0, .int 0, .int 0, .int 0, .int 0, .int 0, .null]))]) hP) (kD_r (a := [(h0, .inr (5, [.ref q5, .ref q16, .null, .null, .int 0, .int 0, .int 0, .int 0])), (q5, .inr (0, [.int 0, .int 0, .int 0, .int 0, .int 0, .int 0, .int 0, .int 0, .int 0, .int 0, .int 0, .ref u9])), (u9, .inr (2, cT0 (fun _ => 0))), (q16, .inr (0, [.int 0, .int 0, .int 0, .int 0, .int 0, .int 0, .int 0, .int 0, .int 0, .int 0, .int 0, .ref u20])), (u20, .inr (2, cT0 (fun _ => 0)))]) (b := [(q27, .inr (4, [.int 0, .int 0, .int 0, .int 0, .int 0, .int 0, .null]))]) hD) rfl hl.1 (Nat.le_of_ble_eq_true rfl) dX5_init_31 ⟨(Nat.le_of_ble_eq_true rfl), (Nat.le_of_ble_eq_true rfl)⟩) hP hD hS hA (fun u31 H locs hw hP hD hS => ?_)
  have hP : va_P G.1 vwCl ([(h0, .inr (5, [.ref q5, .ref q16, .null, .null, .int 0, .int 0, .int 0, .int 0])), (q5, .inr (0, [.int 0, .int 0, .int 0, .int 0, .int 0, .int 0, .int 0, .int 0, .int 0, .int 0, .int 0, .ref u9])), (u9, .inr (2, cT0 (fun _ => 0))), (q16, .inr (0, [.int 0, .int 0, .int 0, .int 0, .int 0, .int 0, .int 0, .int 0, .int 0, .int 0, .int 0, .ref u20])), (u20, .inr (2, cT0 (fun _ => 0))), (q27, .inr (4, [.int 0, .int 0, .int 0, .int 0, .int 0, .int 0, .ref u31])), (u31, .inr (2, cT0 (fun _ => 0)))]) H := hP
  have hD : va_D A ([(h0, .inr (5, [.ref q5, .ref q16, .null, .null, .int 0, .int 0, .int 0, .int 0])), (q5, .inr (0, [.int 0, .int 0, .int 0, .int 0, .int 0, .int 0, .int 0, .int 0, .int 0, .int 0, .int 0, .ref u9])), (u9, .inr (2, cT0 (fun _ => 0))), (q16, .inr (0, [.int 0, .int 0, .int 0, .int 0, .int 0, .int 0, .int 0, .int 0, .int 0, .int 0, .int 0, .ref u20])), (u20, .inr (2, cT0 (fun _ => 0))), (q27, .inr (4, [.int 0, .int 0, .int 0, .int 0, .int 0, .int 0, .ref u31])), (u31, .inr (2, cT0 (fun _ => 0)))]) := hD
  refine va_putF (ci := 5) (v := .ref q27) (ty := .object "StillThere$Way") (C := RX5) (T := TX5) (N := 8) hx hb ht inX5 tyX5 tyX5_ok nmX5 hown hK.1 hP hD hS 0 rfl rfl 2 (by decide) (ht _ q_212) (fun _ h9 => h9) rfl hin rfl (by decide +kernel) rfl rfl (Nat.le_of_ble_eq_true rfl) dX5_init_34 (fun H locs hP hD hS => ?_)
  have hP : va_P G.1 vwCl ([(h0, .inr (5, [.ref q5, .ref q16, .ref q27, .null, .int 0, .int 0, .int 0, .int 0])), (q5, .inr (0, [.int 0, .int 0, .int 0, .int 0, .int 0, .int 0, .int 0, .int 0, .int 0, .int 0, .int 0, .ref u9])), (u9, .inr (2, cT0 (fun _ => 0))), (q16, .inr (0, [.int 0, .int 0, .int 0, .int 0, .int 0, .int 0, .int 0, .int 0, .int 0, .int 0, .int 0, .ref u20])), (u20, .inr (2, cT0 (fun _ => 0))), (q27, .inr (4, [.int 0, .int 0, .int 0, .int 0, .int 0, .int 0, .ref u31])), (u31, .inr (2, cT0 (fun _ => 0)))]) H := hP
  have hD : va_D A ([(h0, .inr (5, [.ref q5, .ref q16, .ref q27, .null, .int 0, .int 0, .int 0, .int 0])), (q5, .inr (0, [.int 0, .int 0, .int 0, .int 0, .int 0, .int 0, .int 0, .int 0, .int 0, .int 0, .int 0, .ref u9])), (u9, .inr (2, cT0 (fun _ => 0))), (q16, .inr (0, [.int 0, .int 0, .int 0, .int 0, .int 0, .int 0, .int 0, .int 0, .int 0, .int 0, .int 0, .ref u20])), (u20, .inr (2, cT0 (fun _ => 0))), (q27, .inr (4, [.int 0, .int 0, .int 0, .int 0, .int 0, .int 0, .ref u31])), (u31, .inr (2, cT0 (fun _ => 0)))]) := hD
  refine lv_aload_n hx hb dX5_init_37 rfl (lv_at hl 0 rfl) ?_
  refine va_new (ci := 4) (fs := [.int 0, .int 0, .int 0, .int 0, .int 0, .int 0, .null]) (C := RX4) (T := TX4) (N := 7) hx hb ht inX4 tyX4 tyX4_ok hown (ht _ q_155) (ht _ q_156) (ht _ q_34) hK.1 hP hD hS hA rfl zX4 (Nat.le_of_ble_eq_true rfl) (Nat.le_of_ble_eq_true rfl) dX5_init_38 (fun q38 H hP hD hS => ?_)
  have hP : va_P G.1 vwCl ([(h0, .inr (5, [.ref q5, .ref q16, .ref q27, .null, .int 0, .int 0, .int 0, .int 0])), (q5, .inr (0, [.int 0, .int 0, .int 0, .int 0, .int 0, .int 0, .int 0, .int 0, .int 0, .int 0, .int 0, .ref u9])), (u9, .inr (2, cT0 (fun _ => 0))), (q16, .inr (0, [.int 0, .int 0, .int 0, .int 0, .int 0, .int 0, .int 0, .int 0, .int 0, .int 0, .int 0, .ref u20])), (u20, .inr (2, cT0 (fun _ => 0))), (q27, .inr (4, [.int 0, .int 0, .int 0, .int 0, .int 0, .int 0, .ref u31])), (u31, .inr (2, cT0 (fun _ => 0))), (q38, .inr (4, [.int 0, .int 0, .int 0, .int 0, .int 0, .int 0, .null]))]) H := hP
  have hD : va_D A ([(h0, .inr (5, [.ref q5, .ref q16, .ref q27, .null, .int 0, .int 0, .int 0, .int 0])), (q5, .inr (0, [.int 0, .int 0, .int 0, .int 0, .int 0, .int 0, .int 0, .int 0, .int 0, .int 0, .int 0, .ref u9])), (u9, .inr (2, cT0 (fun _ => 0))), (q16, .inr (0, [.int 0, .int 0, .int 0, .int 0, .int 0, .int 0, .int 0, .int 0, .int 0, .int 0, .int 0, .ref u20])), (u20, .inr (2, cT0 (fun _ => 0))), (q27, .inr (4, [.int 0, .int 0, .int 0, .int 0, .int 0, .int 0, .ref u31])), (u31, .inr (2, cT0 (fun _ => 0))), (q38, .inr (4, [.int 0, .int 0, .int 0, .int 0, .int 0, .int 0, .null]))]) := hD
  refine lv_dup hx hb dX5_init_41 rfl ?_
  refine k_callnew (pre := [(h0, .inr (5, [.ref q5, .ref q16, .ref q27, .null, .int 0, .int 0, .int 0, .int 0])), (q5, .inr (0, [.int 0, .int 0, .int 0, .int 0, .int 0, .int 0, .int 0, .int 0, .int 0, .int 0, .int 0, .ref u9])), (u9, .inr (2, cT0 (fun _ => 0))), (q16, .inr (0, [.int 0, .int 0, .int 0, .int 0, .int 0, .int 0, .int 0, .int 0, .int 0, .int 0, .int 0, .ref u20])), (u20, .inr (2, cT0 (fun _ => 0))), (q27, .inr (4, [.int 0, .int 0, .int 0, .int 0, .int 0, .int 0, .ref u31])), (u31, .inr (2, cT0 (fun _ => 0)))]) (wc := [(q38, .inr (4, [.int 0, .int 0, .int 0, .int 0, .int 0, .int 0, .null]))]) (kRunIN (As := []) (rest := [.ref q38, .ref h0]) kx (c_X4_init l G q38) q_159 hK.2.2.2.2.1 q_34 q_158 rfl nX4_init ⟨(Nat.le_of_ble_eq_true rfl), (Nat.le_of_ble_eq_true rfl)⟩ hK (kP_r (a := [(h0, .inr (5, [.ref q5, .ref q16, .ref q27, .null, .int 0, .int 0, .int 0, .int 0])), (q5, .inr (0, [.int 0, .int 0, .int 0, .int 0, .int 0, .int 0, .int 0, .int 0, .int 0, .int 0, .int 0, .ref u9])), (u9, .inr (2, cT0 (fun _ => 0))), (q16, .inr (0, [.int 0, .int 0, .int 0, .int 0, .int 0, .int 0, .int 0, .int 0, .int 0, .int 0, .int 0, .ref u20])), (u20, .inr (2, cT0 (fun _ => 0))), (q27, .inr (4, [.int 0, .int 0, .int 0, .int 0, .int 0, .int 0, .ref u31])), (u31, .inr (2, cT0 (fun _ => 0)))]) (b := [(q38, .inr (4, [.int 0, .int 0, .int 0, .int 0, .int 0, .int 0, .null]))]) hP) (kD_r (a := [(h0, .inr (5, [.ref q5, .ref q16, .ref q27, .null, .int 0, .int 0, .int 0, .int 0])), (q5, .inr (0, [.int 0, .int 0, .int 0, .int 0, .int 0, .int 0, .int 0, .int 0, .int 0, .int 0, .int 0, .ref u9])), (u9, .inr (2, cT0 (fun _ => 0))), (q16, .inr (0, [.int 0, .int 0, .int 0, .int 0, .int 0, .int 0, .int 0, .int 0, .int 0, .int 0, .int 0, .ref u20])), (u20, .inr (2, cT0 (fun _ => 0))), (q27, .inr (4, [.int 0, .int 0, .int 0, .int 0, .int 0, .int 0, .ref u31])), (u31, .inr (2, cT0 (fun _ => 0)))]) (b := [(q38, .inr (4, [.int 0, .int 0, .int 0, .int 0, .int 0, .int 0, .null]))]) hD) rfl hl.1 (Nat.le_of_ble_eq_true rfl) dX5_init_42 ⟨(Nat.le_of_ble_eq_true rfl), (Nat.le_of_ble_eq_true rfl)⟩) hP hD hS hA (fun u42 H locs hw hP hD hS => ?_)
  have hP : va_P G.1 vwCl ([(h0, .inr (5, [.ref q5, .ref q16, .ref q27, .null, .int 0, .int 0, .int 0, .int 0])), (q5, .inr (0, [.int 0, .int 0, .int 0, .int 0, .int 0, .int 0, .int 0, .int 0, .int 0, .int 0, .int 0, .ref u9])), (u9, .inr (2, cT0 (fun _ => 0))), (q16, .inr (0, [.int 0, .int 0, .int 0, .int 0, .int 0, .int 0, .int 0, .int 0, .int 0, .int 0, .int 0, .ref u20])), (u20, .inr (2, cT0 (fun _ => 0))), (q27, .inr (4, [.int 0, .int 0, .int 0, .int 0, .int 0, .int 0, .ref u31])), (u31, .inr (2, cT0 (fun _ => 0))), (q38, .inr (4, [.int 0, .int 0, .int 0, .int 0, .int 0, .int 0, .ref u42])), (u42, .inr (2, cT0 (fun _ => 0)))]) H := hP
  have hD : va_D A ([(h0, .inr (5, [.ref q5, .ref q16, .ref q27, .null, .int 0, .int 0, .int 0, .int 0])), (q5, .inr (0, [.int 0, .int 0, .int 0, .int 0, .int 0, .int 0, .int 0, .int 0, .int 0, .int 0, .int 0, .ref u9])), (u9, .inr (2, cT0 (fun _ => 0))), (q16, .inr (0, [.int 0, .int 0, .int 0, .int 0, .int 0, .int 0, .int 0, .int 0, .int 0, .int 0, .int 0, .ref u20])), (u20, .inr (2, cT0 (fun _ => 0))), (q27, .inr (4, [.int 0, .int 0, .int 0, .int 0, .int 0, .int 0, .ref u31])), (u31, .inr (2, cT0 (fun _ => 0))), (q38, .inr (4, [.int 0, .int 0, .int 0, .int 0, .int 0, .int 0, .ref u42])), (u42, .inr (2, cT0 (fun _ => 0)))]) := hD
  refine va_putF (ci := 5) (v := .ref q38) (ty := .object "StillThere$Way") (C := RX5) (T := TX5) (N := 8) hx hb ht inX5 tyX5 tyX5_ok nmX5 hown hK.1 hP hD hS 0 rfl rfl 3 (by decide) (ht _ q_214) (fun _ h9 => h9) rfl hin rfl (by decide +kernel) rfl rfl (Nat.le_of_ble_eq_true rfl) dX5_init_45 (fun H locs hP hD hS => ?_)
  have hP : va_P G.1 vwCl ([(h0, .inr (5, [.ref q5, .ref q16, .ref q27, .ref q38, .int 0, .int 0, .int 0, .int 0])), (q5, .inr (0, [.int 0, .int 0, .int 0, .int 0, .int 0, .int 0, .int 0, .int 0, .int 0, .int 0, .int 0, .ref u9])), (u9, .inr (2, cT0 (fun _ => 0))), (q16, .inr (0, [.int 0, .int 0, .int 0, .int 0, .int 0, .int 0, .int 0, .int 0, .int 0, .int 0, .int 0, .ref u20])), (u20, .inr (2, cT0 (fun _ => 0))), (q27, .inr (4, [.int 0, .int 0, .int 0, .int 0, .int 0, .int 0, .ref u31])), (u31, .inr (2, cT0 (fun _ => 0))), (q38, .inr (4, [.int 0, .int 0, .int 0, .int 0, .int 0, .int 0, .ref u42])), (u42, .inr (2, cT0 (fun _ => 0)))]) H := hP
  have hD : va_D A ([(h0, .inr (5, [.ref q5, .ref q16, .ref q27, .ref q38, .int 0, .int 0, .int 0, .int 0])), (q5, .inr (0, [.int 0, .int 0, .int 0, .int 0, .int 0, .int 0, .int 0, .int 0, .int 0, .int 0, .int 0, .ref u9])), (u9, .inr (2, cT0 (fun _ => 0))), (q16, .inr (0, [.int 0, .int 0, .int 0, .int 0, .int 0, .int 0, .int 0, .int 0, .int 0, .int 0, .int 0, .ref u20])), (u20, .inr (2, cT0 (fun _ => 0))), (q27, .inr (4, [.int 0, .int 0, .int 0, .int 0, .int 0, .int 0, .ref u31])), (u31, .inr (2, cT0 (fun _ => 0))), (q38, .inr (4, [.int 0, .int 0, .int 0, .int 0, .int 0, .int 0, .ref u42])), (u42, .inr (2, cT0 (fun _ => 0)))]) := hD
  refine lv_aload_n hx hb dX5_init_48 rfl (lv_at hl 0 rfl) ?_
  obtain ⟨a, ha⟩ : ∃ a : Nat → Nat, a = (fun i => match i with | 0 => h0 | 1 => q5 | 2 => u9 | 3 => q16 | 4 => u20 | 5 => q27 | 6 => u31 | 7 => q38 | _ => u42) := ⟨_, rfl⟩
  have hP : va_P G.1 vwCl (cW a (fun _ _ => 0)) H := by rw [ha]; exact hP
  have hD : va_D A (cW a (fun _ _ => 0)) := by rw [ha]; exact hD
  have ha0 : a 0 = h0 := congrFun ha 0
  rw [← ha0]
  refine k_callnew (pre := []) (wc := cW a (fun _ _ => 0)) (kRunVn (As := []) (rest := []) kx (c_X5_reset l G (fun _ _ => 0) a) q_194 q_191 q_31 q_192 q_193 nX5_reset ⟨Nat.le_of_ble_eq_true rfl, Nat.le_of_ble_eq_true rfl⟩ hK hP hD 0 5 rfl rfl rfl rfl hl.1 (Nat.le_of_ble_eq_true rfl) dX5_init_49 ⟨Nat.le_of_ble_eq_true rfl, Nat.le_of_ble_eq_true rfl⟩) hP hD hS hA (fun _ H locs hw hP hD hS => ?_)
  have hP : va_P G.1 vwCl (cW a kG0) H := hP
  have hD : va_D A (cW a kG0) := hD
  refine W.widen (k := 8) (n := 58) (Nat.le_of_ble_eq_true rfl) (Nat.le_of_ble_eq_true rfl) ?_
  exact k_vretN kx hK hP hD hS (u := a) rfl rfl dX5_init_52
