/-! WHAT IS THROWN: a method that ends by 'throw new E("text")' before it has written anything. -/
def exN (k : Int) : String := if k = 1 then "java/lang/IllegalArgumentException" else "java/lang/IllegalStateException"
def exS : List String := ["java/lang/RuntimeException", "java/lang/Exception"]
/-- words that do not stay by themselves under warmer tables: they are carried as facts -/
def exBad : List Cond := [.declares (Bundle.initS "java/lang/RuntimeException"), .declares (Bundle.initS "java/lang/Exception"), .declares (Bundle.initS Bundle.tN), .castable "java/lang/IllegalArgumentException" "java/lang/IllegalArgumentException", .castable "java/lang/IllegalStateException" "java/lang/IllegalStateException"]
def exRef : List Cond := [.isRef (.static Bundle.tN "UNASSIGNED_STACK" Bundle.steD), .isRef (.static Bundle.tN "SUPPRESSED_SENTINEL" Bundle.listD), .laysStatic Bundle.tN "UNASSIGNED_STACK" Bundle.steD, .laysStatic Bundle.tN "SUPPRESSED_SENTINEL" Bundle.listD]
/-- a static field is laid, outside A -/
def exZ (C n d : String) (A : Nat → Prop) (U : State) (H : Heap) : Prop := ∃ (cf : ClassId) (kf : Class) (fi : Nat) (f : Field) (a : Nat) (cell : Cell), U.vm.findClass C = some cf ∧ U.fieldFound? C n d = some (cf, kf, fi, f) ∧ f.isStatic = true ∧ kf.statics = some a ∧ H[a]? = some cell ∧ cell.vm.isStatics = true ∧ cell.cls = cf ∧ f.slot < cell.slots.size ∧ kf.staticTypes[f.slot]? = some f.type ∧ ¬ A a
theorem exZ.moved {C n d : String} {A : Nat → Prop} {u U : State} {H : Heap} (hvm : u.vm.Alike U.vm) (h : exZ C n d A u H) : exZ C n d A U H := by
  obtain ⟨cf, kf, fi, f, a, cell, h0, h1, h2, h4, h5, h6, h7, h8, h9, h10⟩ := h
  obtain ⟨k', hi', he⟩ := State.fieldFound?_setVm hvm h1
  exact ⟨cf, k', fi, f, a, cell, by rw [hvm.findClass]; exact h0, hi', h2, by rw [he]; exact h4, h5, h6, h7, h8, by rw [he]; exact h9, h10⟩
theorem exZ.kept {C n d : String} {A : Nat → Prop} {U : State} {H H1 : Heap} (h : exZ C n d A U H) (hq : ∀ a : Nat, a < H.size → ¬ A a → H1[a]? = H[a]?) : exZ C n d A U H1 := by
  obtain ⟨cf, kf, fi, f, a, cell, h0, h1, h2, h4, h5, h6, h7, h8, h9, h10⟩ := h
  exact ⟨cf, kf, fi, f, a, cell, h0, h1, h2, h4, by rw [hq a (Array.getElem?_eq_some_iff.mp h5).1 h10]; exact h5, h6, h7, h8, h9, h10⟩
theorem exZ.narrow {C n d : String} {A B : Nat → Prop} {U : State} {H : Heap} (h : exZ C n d A U H) (hAB : ∀ q, B q → A q) : exZ C n d B U H := by
  obtain ⟨cf, kf, fi, f, a, cell, h0, h1, h2, h4, h5, h6, h7, h8, h9, h10⟩ := h
  exact ⟨cf, kf, fi, f, a, cell, h0, h1, h2, h4, h5, h6, h7, h8, h9, fun z => h10 (hAB a z)⟩
theorem exZ.use {C n d : String} {A : Nat → Prop} {s : State} {args : Array Value} (h : exZ C n d A s s.heap) : (Cond.laysStatic C n d).before args s = true := by
  obtain ⟨cf, kf, fi, f, a, cell, h0, h1, h2, h4, h5, h6, h7, h8, h9, -⟩ := h
  exact Cond.laysStatic_of h0 h1 h2 h4 h5 h6 h7 h8 h9
theorem exZ.of {C n d : String} {A : Nat → Prop} {s : State} {args : Array Value} (h : (Cond.laysStatic C n d).before args s = true) (hA : ∀ a : Nat, a < s.heap.size → ¬ A a) : exZ C n d A s s.heap := by
  obtain ⟨c, k, i, f, a, cell, hc, hi, hst, ha, hcell, hs, hcls, hlt, hty⟩ := Cond.laysStatic_spec h
  exact ⟨c, k, i, f, a, cell, hc, hi, hst, ha, hcell, hs, hcls, hlt, hty, hA a (Array.getElem?_eq_some_iff.mp hcell).1⟩
def exQ (n d : String) (A : Nat → Prop) (U : State) (H : Heap) : Prop := va_Zq Bundle.tN n d A U H ∧ exZ Bundle.tN n d A U H
def jFx : jFt := fun A U H => (∀ w ∈ exBad, va_Nw w U) ∧ exQ "UNASSIGNED_STACK" Bundle.steD A U H ∧ exQ "SUPPRESSED_SENTINEL" Bundle.listD A U H
theorem exBad_warm {w : Cond} (hw : w ∈ exBad) {s U : State} (hW : s.WarmedH U.vm) (h : va_Nw w s) : va_Nw w U := by
  simp only [exBad, List.mem_cons, List.not_mem_nil, or_false] at hw
  rcases hw with rfl | rfl | rfl | rfl | rfl
  · exact va_Nw.warmD hW h
  · exact va_Nw.warmD hW h
  · exact va_Nw.warmD hW h
  · exact va_Nw.warmC hW h
  · exact va_Nw.warmC hW h
theorem exBad_same {w : Cond} (hw : w ∈ exBad) {u U : State} (e : u.vm = U.vm) (h : va_Nw w u) : va_Nw w U := by
  simp only [exBad, List.mem_cons, List.not_mem_nil, or_false] at hw
  rcases hw with rfl | rfl | rfl | rfl | rfl <;> exact va_Nw.same rfl e h
theorem exBad_use {w : Cond} (hw : w ∈ exBad) {args : Array Value} {s : State} (h : va_Nw w s) : w.before args s = true := by
  simp only [exBad, List.mem_cons, List.not_mem_nil, or_false] at hw
  rcases hw with rfl | rfl | rfl | rfl | rfl <;> exact va_Nw.use rfl h
theorem jFx_k : jFk jFx := by
  refine ⟨fun A u U H hW h => ⟨fun w hw => exBad_warm hw hW (h.1 w hw), ⟨h.2.1.1.moved hW.alike, h.2.1.2.moved hW.alike⟩, ⟨h.2.2.1.moved hW.alike, h.2.2.2.moved hW.alike⟩⟩, fun A u U H e h => ?_, fun A U H H1 hq h => ⟨h.1, ⟨h.2.1.1.kept hq, h.2.1.2.kept hq⟩, ⟨h.2.2.1.kept hq, h.2.2.2.kept hq⟩⟩, fun A B U H hAB h => ⟨h.1, ⟨h.2.1.1.narrow hAB, h.2.1.2.narrow hAB⟩, ⟨h.2.2.1.narrow hAB, h.2.2.2.narrow hAB⟩⟩⟩
  have al : u.vm.Alike U.vm := e ▸ Vm.Alike.refl u.vm
  exact ⟨fun w hw => exBad_same hw e (h.1 w hw), ⟨h.2.1.1.moved al, h.2.1.2.moved al⟩, ⟨h.2.2.1.moved al, h.2.2.2.moved al⟩⟩
theorem va_Z_eval {C n d : String} {v : Value} {A : Nat → Prop} {s : State} {args : Array Value} (h : va_Z C n d v A s s.heap) : (Term.static C n d).eval args s none [] s = some v := by
  obtain ⟨cf, kf, fi, f, a, cell, h1, h2, h3, h4, h5, h6, h7, -⟩ := h
  simp [Term.eval, State.fieldNamed?, h1, h2, h4, h5, h6, h7]
theorem va_Zq_isRef {C n d : String} {A : Nat → Prop} {s : State} {args : Array Value} (h : va_Zq C n d A s s.heap) : (Cond.isRef (.static C n d)).before args s = true := by
  rcases h with h | ⟨t, h⟩
  · have e := va_Z_eval (args := args) h
    simp [Cond.before, Cond.holds, Cond.value, e]
  · have e := va_Z_eval (args := args) h
    simp [Cond.before, Cond.holds, Cond.value, e]
def jFe (adK adV : Nat → Nat) (ro : Nat) : jFt := fun A U H => jFs adK adV ro A U H ∧ jFx A U H
theorem jFe_k {adK adV : Nat → Nat} {ro : Nat} : jFk (jFe adK adV ro) :=
  ⟨fun A u U H hW h => ⟨jFs_k.1 A u U H hW h.1, jFx_k.1 A u U H hW h.2⟩, fun A u U H e h => ⟨jFs_k.2.1 A u U H e h.1, jFx_k.2.1 A u U H e h.2⟩, fun A U H H1 hq h => ⟨jFs_k.2.2.1 A U H H1 hq h.1, jFx_k.2.2.1 A U H H1 hq h.2⟩, fun A B U H hAB h => ⟨jFs_k.2.2.2 A B U H hAB h.1, jFx_k.2.2.2 A B U H hAB h.2⟩⟩
/-- more words: of what is thrown -/
def wX : List Cond := (Bundle.ownAtoms "CekMachine" 40 "java/lang/IllegalArgumentException" exS ++ Bundle.ownAtoms "CekMachine" 59 "java/lang/IllegalStateException" exS).filter (fun w => !(exBad ++ exRef).contains w) ++ [.classLink "CekMachine" 36 "java/lang/IllegalArgumentException", .classLink "CekMachine" 55 "java/lang/IllegalStateException", .initialized "java/lang/IllegalArgumentException", .initialized "java/lang/IllegalStateException"]
def jQt (cls : String) : Array Value → State → Outcome → State → Prop := fun _ st o t => ∃ (x : Nat) (ce : Cell), o = .threw x ∧ t.heap[x]? = some ce ∧ st.vm.findClass cls = some ce.cls ∧ ce.vm = .none ∧ st.heap.size ≤ x ∧ (∀ q : Nat, q < st.heap.size → t.heap[q]? = st.heap[q]?) ∧ st.WarmedH t.vm ∧ st.sameButNew ({ t with vm := st.vm } : State) [] 1 6
/-- called with av where the heap holds ws: it throws a new object of the class cls; nothing that was there has changed -/
def CTT (F : jFt) (l : Launch) (D : va_G) (tys : List (ClassId × FieldType)) (y : MethodName) (wd : List Cond) (rm : Room) (av : List Value) (ws : va_W) (cls : String) : Prop :=
  ∀ sz : Nat, MetFree l y (headSpec wd rm) (va_Pc av (fun U => U.heap.size = sz ∧ va_P D vwCl ws U.heap ∧ va_K D vwCl tys U ∧ va_D (fun _ => True) ws ∧ F (va_A ws sz) U U.heap)) (fun _ _ _ _ _ => True) (jQt cls)
def jMQt (below : List Frame) (cls : String) (a : Array Value) (s : State) : State → Prop := fun t => ∃ o, t.status = .running ∧ Ended t below o ∧ jQt cls a s o t
def jT (K : jK) (nL : Nat) (cc : ByteArray) (Ts : List Cond) (own : String) (R : Room) (cls : String) : Prop :=
  ∀ (ls : Array Slot) (pc ia ib ic : Nat) (rest : List Value), ls.size = nL → decode cc pc = .ok (.new ia, 3) → decode cc (pc + 3) = .ok (.dup, 1) → decode cc (pc + 4) = .ok (.ldc ib, 2) → decode cc (pc + 6) = .ok (.invokespecial ic, 3) → decode cc (pc + 9) = .ok (.athrow, 1) →
    (∃ (i : Nat) (tx : String), sJ[i]? = some (own, ib, tx)) → Cond.classLink own ia cls ∈ Ts → (∀ a ∈ Bundle.ownAtoms own ic cls exS, a ∈ Ts ∨ a ∈ exBad ∨ a ∈ exRef) → (rest.map fun v => v.category).sum ≤ 4 → jW K R (jS K).heap [] 0 0 (F0 (jM K) pc ls rest)
theorem J_throw {K : jK} {nL : Nat} {R : Room} {ws : va_W} {lv : List (Nat × Value)} {rest : List Value} {pc : Nat} {cc : ByteArray} {Ts : List Cond} {own : String} {cls : String} (T : jT K nL cc Ts own R cls) {ia ib ic : Nat} (d0 : decode cc pc = .ok (.new ia, 3)) (d1 : decode cc (pc + 3) = .ok (.dup, 1)) (d2 : decode cc (pc + 4) = .ok (.ldc ib, 2)) (d3 : decode cc (pc + 6) = .ok (.invokespecial ic, 3)) (d4 : decode cc (pc + 9) = .ok (.athrow, 1))
    (i : Nat) {tx : String} (hi : sJ[i]? = some (own, ib, tx)) (hcl : Cond.classLink own ia cls ∈ Ts) (hat : ∀ a ∈ Bundle.ownAtoms own ic cls exS, a ∈ Ts ∨ a ∈ exBad ∨ a ∈ exRef) (hrest : (rest.map fun v => v.category).sum ≤ 4) : J K nL R true 0 0 ws lv rest pc := by
  intro H locs ls h hl
  obtain ⟨e1, e2⟩ := h.2.2.2 rfl
  rw [e1, e2]
  exact T ls pc ia ib ic rest hl.1 d0 d1 d2 d3 d4 ⟨i, tx, hi⟩ hcl hat hrest
set_option maxHeartbeats 4000000 in
theorem CTT_of_J {F : jFt} {adK adV : Nat → Nat} {ro : Nat} {l : Launch} {D : va_G} {tys : List (ClassId × FieldType)} {y : MethodName} {wd wd' : List Cond} {rm : Room} {av : List Value} {ws : va_W} {cls : String} {cc : ByteArray} {maxL : Nat} {ret : Option FieldType}
    (hfl : l.flags = pinnedFlags ++ [noTraceFlag]) (hFk : jFk F) (hFe : ∀ (A : Nat → Prop) (U : State) (H : Heap), F A U H → jFe adK adV ro A U H) (hy : plainFor y = true) (hw : wd = Cond.code y cc maxL ret :: wd') (hlen : (lg_sl av).length ≤ maxL)
    (hfit : Bundle.fit cls = true) (hins : Cond.instantiable cls 6 ∈ wd) (hini : Cond.initialized cls ∈ wd) (hrm : 6 ≤ rm.frames ∧ 100 ≤ rm.locals ∧ 1 ≤ rm.cells ∧ 6 ≤ rm.slots)
    (body : ∀ K : jK, jL K = l → jD K = D → jX F K maxL cc wd y.cls tys → jT K maxL cc wd y.cls rm cls → J K maxL rm true 0 0 ws (lv_args 0 av) [] 0) : CTT F l D tys y wd rm av ws cls := by
  intro sz
  refine MetFree.of_bodySF (code := cc) (maxLocals := maxL) (ret := ret) hy ?_ ?_
  · intro args s m h hn
    obtain ⟨meth, c, h1, h2, h3, h4, h5, h6, -, -⟩ := Cond.code_spec hn (atoms_spec (ws := wd) h _ (by rw [hw]; exact List.mem_cons_self))
    exact ⟨meth, c, h1, h2, h3, h4, h5, h6⟩
  · intro p e s m args below meth c s₁ B hml hPP _
    obtain ⟨rfl, hsz, hP, hK, hD0, hF0⟩ := hPP
    have hts := atoms_spec (ws := wd) B.pre
    have hown : s.vm.findClass y.cls = some m.cls := findClass_of_methodNamed B.named
    have hlocks := B.notSynchronized
    subst hsz
    have hD := hD0.self (sz := s.heap.size)
    have hl := lv_entry av (n := maxL) hlen
    have hh0 : s₁.heap = s.heap := by rw [B.state]; rfl
    have htr : e.platform.stackTraces = false := Launch.traces_off hfl B.admits
    have hno : c.exceptionTable.isEmpty = true := B.noHandlers (hts _ (by rw [hw]; exact List.mem_cons_self))
    have hFF := hFe _ _ _ hF0
    have hTt : jT ((p, l, e, s, m), (av.toArray, below, meth, c), (D, va_A ws s.heap.size, jMQt below cls av.toArray s)) maxL cc wd y.cls rm cls := by
      intro ls pc ia ib ic rest hls d0 d1 d2 d3 d4 hstr hcl hat hrest
      obtain ⟨i, tx, hi⟩ := hstr
      show W p l e rm s m av.toArray below meth c s.heap [] 0 0 _ (F0 m pc ls rest)
      refine W.newc B.exec B.bytes hown (hts _ hcl) (hts _ hins) (hts _ hini) rfl d0 (by omega) (by omega) (fun cC kC h1 h2 h3 h4 => ?_)
      refine W.eq (g2 := F0 m (pc + 3) ls (.ref s.heap.size :: rest)) rfl ?_
      refine lv_dup B.exec B.bytes d1 rfl ?_
      refine va_ldcS B.exec B.bytes hown (hFF.1.2.1 i _ hi) d2 ?_
      intro T hT X
      obtain ⟨U, hsteps, hrun, hend, hW, hsame, ce, hce, hoc⟩ := Stand.ctorThrowS X B.exec htr (own := y.cls) (cls := cls) (names := exS) (ic := ic) hown hfit (by decide +kernel) (fun a ha => by
          rcases hat a ha with q | q | q
          · exact hts _ q
          · exact exBad_use q (hFF.2.1 a q)
          · simp only [exRef, List.mem_cons, List.not_mem_nil, or_false] at q
            rcases q with rfl | rfl | rfl | rfl
            · exact va_Zq_isRef hFF.2.2.1.1
            · exact va_Zq_isRef hFF.2.2.2.1
            · exact hFF.2.2.1.2.use
            · exact hFF.2.2.2.2.use) (fun x hx => by cases hx) h1 h2 (a := s.heap.size) (by rw [hT]; simp [freshCell]) (Nat.le_refl _) (msg := .ref (adK i)) rfl (g := F0 m (pc + 6) ls (.ref (adK i) :: .ref s.heap.size :: .ref s.heap.size :: rest)) rfl (hls.trans hml.symm) rfl rfl (rest := rest) rfl (by rw [B.bytes]; exact d3) (by rw [B.bytes]; exact d4)
          (fun x hx => by rw [Array.isEmpty_iff.mp hno] at hx; cases hx) (by show exS.length + 3 < rm.frames; simp only [exS, List.length_cons, List.length_nil]; omega) (by show 2 * 0 + ((Value.ref s.heap.size :: rest).map fun v => v.category).sum + (13 * (exS.length + 1) + 42) ≤ rm.locals; simp only [exS, List.length_cons, List.length_nil, List.map_cons, List.sum_cons]; rw [show (Value.ref s.heap.size).category = 1 from rfl]; omega) hlocks
      refine ⟨U, hsteps, .threw s.heap.size, hrun, hend, s.heap.size, ce, rfl, hce, hoc.cls, hoc.vm, Nat.le_refl _, fun q hq => ?_, hW, hsame⟩
      obtain ⟨cq, hcq⟩ : ∃ cq, s.heap[q]? = some cq := ⟨_, Array.getElem?_eq_getElem hq⟩
      obtain ⟨c', g1, g2, g3, g4⟩ := hsame.2.2.2.2.2 q cq hcq
      have e1 : c'.slots = cq.slots := by
        apply Array.ext_getElem?
        intro j
        exact g4 j (by simp)
      rw [hcq]
      have g1' : U.heap[q]? = some c' := g1
      rw [g1', g2, e1]
    have key := body ((p, l, e, s, m), (av.toArray, below, meth, c), (D, va_A ws s.heap.size, jMQt below cls av.toArray s)) rfl rfl ⟨⟨B.exec, B.bytes, hml, hown, hts⟩, hK, fun q h => Or.inr h, hFk, hF0⟩ hTt s.heap [] _ ⟨hP, hD, va_S.rf, fun _ => ⟨rfl, rfl⟩⟩ hl
    rw [lg_entry_eq]
    obtain ⟨t, a1, o, b1, b2, b3⟩ := key s₁ hh0 (Stand.of_body B)
    exact ⟨t, o, a1, b1, b2, b3⟩
theorem jt_x {w c : Cond} (h : w ∈ wX) : w ∈ c :: (wX ++ wA) := List.mem_cons_of_mem _ (List.mem_append_left _ h)
theorem jt_m {wo : List Cond} {c w : Cond} (ho : ∀ w ∈ wo, w ∈ wA) (h : w ∈ wo) : w ∈ c :: (wX ++ wA) := List.mem_cons_of_mem _ (List.mem_append_right _ (ho w h))
theorem jt_in {a : List Cond} {c : Cond} (h : ∀ w ∈ a, w ∈ wA) : ∀ w ∈ a, w ∈ c :: (wX ++ wA) := fun w q => List.mem_cons_of_mem _ (List.mem_append_right _ (h w q))
theorem jtG {c0 : Cond} {ws : List Cond} (h : GoodIn (c0 :: wA) ws) (hc : ∀ w ∈ ws, w ∈ wA) : GoodIn (c0 :: (wX ++ wA)) ws := fun w hw => ⟨List.mem_cons_of_mem _ (List.mem_append_right _ (hc w hw)), (h w hw).2⟩
theorem jtV {own : String} {idx : Nat} {C : String} {y : MethodName} {b : ByteArray} {mL : Nat} {r : Option FieldType} {c0 : Cond} {wo : List Cond} (ho : ∀ w ∈ wo, w ∈ wA) (h : ∀ w ∈ ([.methodLink own idx y, .instanceMethod y, .selects C y y, .initialized C, .code y b mL r] : List Cond), w ∈ wo) : GoodIn (c0 :: (wX ++ wA)) (wsV own idx C y (.code y b mL r :: wA)) := by
  have k : ∀ w ∈ wsV own idx C y (.code y b mL r :: wA), w ∈ wA := by
    intro w hw
    rcases List.mem_append.mp hw with q | q
    · exact ho w (h w (by simp only [List.mem_cons, List.not_mem_nil, or_false] at q ⊢; rcases q with q | q | q | q <;> simp [q]))
    · rcases List.mem_cons.mp q with q | q
      · exact ho w (h w (by simp [q]))
      · exact q
  exact fun w hw => ⟨List.mem_cons_of_mem _ (List.mem_append_right _ (k w hw)), j_gd (k w hw)⟩
theorem jtS {own : String} {idx : Nat} {y : MethodName} {b : ByteArray} {mL : Nat} {r : Option FieldType} {c0 : Cond} {wo : List Cond} (ho : ∀ w ∈ wo, w ∈ wA) (h : ∀ w ∈ ([.methodLink own idx y, .static y, .initialized y.cls, .code y b mL r] : List Cond), w ∈ wo) : GoodIn (c0 :: (wX ++ wA)) (va_wsS own idx y (.code y b mL r :: wA)) := by
  have k : ∀ w ∈ va_wsS own idx y (.code y b mL r :: wA), w ∈ wA := by
    intro w hw
    rcases List.mem_append.mp hw with q | q
    · exact ho w (h w (by simp only [List.mem_cons, List.not_mem_nil, or_false] at q ⊢; rcases q with q | q | q <;> simp [q]))
    · rcases List.mem_cons.mp q with q | q
      · exact ho w (h w (by simp [q]))
      · exact q
  exact fun w hw => ⟨List.mem_cons_of_mem _ (List.mem_append_right _ (k w hw)), j_gd (k w hw)⟩
theorem ex_fit (k : Int) : Bundle.fit (exN k) = true := by
  unfold exN
  split <;> decide +kernel
theorem ex_ins (k : Int) {c : Cond} : Cond.instantiable (exN k) 6 ∈ c :: (wX ++ wA) := by
  refine jt_x ?_
  unfold exN
  split <;> decide +kernel
theorem ex_ini (k : Int) {c : Cond} : Cond.initialized (exN k) ∈ c :: (wX ++ wA) := by
  refine jt_x ?_
  unfold exN
  split <;> decide +kernel
theorem ex_at1 {c : Cond} : ∀ a ∈ Bundle.ownAtoms "CekMachine" 40 (exN 1) exS, a ∈ c :: (wX ++ wA) ∨ a ∈ exBad ∨ a ∈ exRef := by
  intro a ha
  by_cases q : (exBad ++ exRef).contains a = true
  · rw [List.contains_iff_mem] at q
    exact Or.inr (List.mem_append.mp q)
  · exact Or.inl (jt_x (List.mem_append_left _ (List.mem_filter.mpr ⟨List.mem_append_left _ ha, by simpa using q⟩)))
theorem ex_at2 {c : Cond} : ∀ a ∈ Bundle.ownAtoms "CekMachine" 59 (exN 2) exS, a ∈ c :: (wX ++ wA) ∨ a ∈ exBad ∨ a ∈ exRef := by
  intro a ha
  by_cases q : (exBad ++ exRef).contains a = true
  · rw [List.contains_iff_mem] at q
    exact Or.inr (List.mem_append.mp q)
  · exact Or.inl (jt_x (List.mem_append_left _ (List.mem_filter.mpr ⟨List.mem_append_right _ ha, by simpa using q⟩)))
theorem wX_good : wX.all goodWord = true := by decide +kernel
