/-! WHAT IS CAUGHT: a call that throws, in a method whose own table catches it; the table's classes may be resolved there for the first time. -/
/-- a can be cast to b, or not -/
def ckA (a b : String) (r : Bool) (U : State) : Prop := ∃ c t : ClassId, U.vm.findClass a = some c ∧ U.vm.findClass b = some t ∧ U.vm.assignable c t = r
theorem ckA.moved {a b : String} {r : Bool} {u U : State} (h : u.vm.Alike U.vm) (q : ckA a b r u) : ckA a b r U := by
  obtain ⟨c, t, h1, h2, h3⟩ := q
  exact ⟨c, t, by rw [h.findClass]; exact h1, by rw [h.findClass]; exact h2, by rw [h.assignable]; exact h3⟩
def ckF (U : State) : Prop := ckA (exN 1) (exN 1) true U ∧ ckA (exN 2) (exN 2) true U ∧ ckA (exN 1) (exN 2) false U ∧ ckA (exN 2) (exN 1) false U
theorem ckF.moved {u U : State} (h : u.vm.Alike U.vm) (q : ckF u) : ckF U := ⟨q.1.moved h, q.2.1.moved h, q.2.2.1.moved h, q.2.2.2.moved h⟩
def jFc (adK adV : Nat → Nat) (ro : Nat) : jFt := fun A U H => jFe adK adV ro A U H ∧ ckF U
theorem jFc_k {adK adV : Nat → Nat} {ro : Nat} : jFk (jFc adK adV ro) :=
  ⟨fun A u U H hW h => ⟨jFe_k.1 A u U H hW h.1, h.2.moved hW.alike⟩, fun A u U H e h => ⟨jFe_k.2.1 A u U H e h.1, h.2.moved (e ▸ Vm.Alike.refl u.vm)⟩, fun A U H H1 hq h => ⟨jFe_k.2.2.1 A U H H1 hq h.1, h.2⟩, fun A B U H hAB h => ⟨jFe_k.2.2.2 A B U H hAB h.1, h.2⟩⟩
/-- the rows of a table, one behind the other: the first whose class takes what is thrown stands at hp -/
def ckOk (own cls : String) (pc : Nat) (args : Array Value) (s : State) (hp : Nat) : List ExceptionTableEntry → Prop
  | [] => False
  | x :: t => covers x pc = true ∧ x.catchType ≠ 0 ∧ ∃ name : String, (Cond.classLink own x.catchType name).before args s = true ∧ ((ckA cls name true s ∧ x.handlerPc = hp) ∨ (ckA cls name false s ∧ ckOk own cls pc args s hp t))
theorem ck_row {E : CtlPost} {e : Env} {d : Bool} {acts : List Action} {S : State} {f : JFrame} {a : Addr} {Q : Handler → Pre} {x : ExceptionTableEntry} {t : List ExceptionTableEntry} {c : ClassId} {cell : Cell} {r : Bool}
    (hx : covers x f.pc = true) (h0 : x.catchType ≠ 0) (hl : S.vm.ClassLinks e.platform f.method.cls x.catchType c) (hcell : S.heap[a]? = some cell) (hobj : ∀ k, cell.vm ≠ .statics k)
    (hk : ∃ k, S.vm.classes[cell.cls]? = some k) (hc : ∃ k, S.vm.classes[c]? = some k) (hr : S.vm.assignable cell.cls c = r) :
    wp (findHandler.go f a (x :: t)) Q E e d acts S ↔ bif r then Q (.found x.handlerPc) d acts (S.setVm (S.vm.noted f.method.cls x.catchType (.cls c))) else wp (findHandler.go f a t) Q E e d acts (S.setVm (S.vm.noted f.method.cls x.catchType (.cls c))) := by
  have e0 : x.startPc ≤ f.pc ∧ f.pc < x.endPc := by simpa [covers] using hx
  have al : S.vm.Alike (S.vm.noted f.method.cls x.catchType (.cls c)) := (Vm.Alike.refl S.vm).noted _ _ _
  obtain ⟨ha, ht⟩ := (resolveClass_links e.toSetting hl).op (op := VmOp.resolveClass f.method.cls x.catchType) rfl
  obtain ⟨k1, hk1⟩ := hk
  obtain ⟨k2, hk2⟩ := hc
  obtain ⟨k3, hk3, -⟩ := al.2.2 _ _ hk1
  obtain ⟨k4, hk4, -⟩ := al.2.2 _ _ hk2
  have hr2 : (S.vm.noted f.method.cls x.catchType (.cls c)).assignable cell.cls c = r := (al.assignable _ _).trans hr
  cases r <;> simp [findHandler.go, e0, h0, ha, ht, hcell, hobj, hk3, hk4, hr2, VmOp.dirties, VmOp.acts]
theorem ck_go {e : Env} {s : State} {args : Array Value} {f : JFrame} {a : Addr} {cell : Cell} {own cls : String} {hp : Nat} (hown : s.vm.findClass own = some f.method.cls) (hpl : e.platform.magicAccessors = ({} : Platform).magicAccessors) (hobj : ∀ k, cell.vm ≠ .statics k) (hcc : s.vm.findClass cls = some cell.cls) :
    ∀ (tbl : List ExceptionTableEntry) (S : State), s.WarmedH S.vm → S.heap[a]? = some cell → ckOk own cls f.pc args s hp tbl → ∃ vm', s.WarmedH vm' ∧ ∀ (Q : Handler → Pre) (E : CtlPost) (d : Bool) (acts : List Action), wp (findHandler.go f a tbl) Q E e d acts S ↔ Q (.found hp) d acts (S.setVm vm') := by
  intro tbl
  induction tbl with
  | nil => intro S _ _ h; exact h.elim
  | cons x t ih =>
    intro S hW hcell h
    obtain ⟨hx, h0, name, hlk, h⟩ := h
    obtain ⟨c, hc, hcl⟩ := Cond.classLink_spec hown hlk e.platform hpl
    obtain ⟨dk, _, _, kt, hd, _, _, _, _, hkt, _, hopen⟩ := hcl.here
    have hW' : s.WarmedH (S.vm.noted f.method.cls x.catchType (.cls c)) := hW.noted hd hopen (State.rightAt_cls hcl)
    obtain ⟨kx, hkx⟩ := Vm.classAt_of_findClass hcc
    obtain ⟨kx2, hkx2, -⟩ := hW.alike.2.2 _ _ hkx
    obtain ⟨kt2, hkt2, -⟩ := hW.alike.2.2 _ _ hkt
    rcases h with ⟨⟨c1, t1, g1, g2, g3⟩, e1⟩ | ⟨⟨c1, t1, g1, g2, g3⟩, e1⟩
    · cases hcc.symm.trans g1
      cases hc.symm.trans g2
      subst e1
      exact ⟨_, hW', fun Q E d acts => (ck_row hx h0 (hW.classLinks hcl) hcell hobj ⟨kx2, hkx2⟩ ⟨kt2, hkt2⟩ (r := true) (by rw [hW.alike.assignable]; exact g3))⟩
    · cases hcc.symm.trans g1
      cases hc.symm.trans g2
      obtain ⟨vm', hW2, hq⟩ := ih (S.setVm (S.vm.noted f.method.cls x.catchType (.cls c))) hW' hcell e1
      exact ⟨vm', hW2, fun Q E d acts => (ck_row hx h0 (hW.classLinks hcl) hcell hobj ⟨kx2, hkx2⟩ ⟨kt2, hkt2⟩ (r := false) (by rw [hW.alike.assignable]; exact g3)).trans (hq Q E d acts)⟩
theorem ck_frames (u : State) (vm' : Vm) (F G : List Frame) : ((u.setFrames F).setVm vm').setFrames G = (u.setVm vm').setFrames G := State.setFrames_setFrames (u.setVm vm') F G
theorem ck_step {p : Program} {l : Launch} {e : Env} {R : Room} {s : State} {m : MethodId} {args : Array Value} {below : List Frame} {meth : Method} {c : Code} {T : State} {locs : List Loc} {cells slots : Nat} (X : Stand p l e R s m args below meth c T locs cells slots)
    {a : Addr} {cell : Cell} {g : JFrame} (hg : g.method = m) {own cls : String} {hp : Nat} (hown : s.vm.findClass own = some m.cls) (hcell : T.heap[a]? = some cell) (hobj : cell.vm = .none) (hcc : s.vm.findClass cls = some cell.cls) (hck : ckOk own cls g.pc args s hp c.exceptionTable.toList) :
    ∃ vm', Stand p l e R s m args below meth c (T.setVm vm') locs cells slots ∧ ∀ target, Steps p.tables e below ((T.setVm vm').setTop { g with pc := hp, stack := [.ref a] }) target → Steps p.tables e below ((T.setTop g).pushFrame (.throwing a)) target := by
  subst hg
  have hpl : e.platform.magicAccessors = ({} : Platform).magicAccessors := by rw [X.admits.platform]
  obtain ⟨vm', hW', hq⟩ := ck_go (e := e) (f := g) (a := a) hown hpl (fun k => by rw [hobj]; simp) hcc c.exceptionTable.toList ((T.setTop g).pushFrame (.throwing a)) X.warmed hcell hck
  refine ⟨vm', X.noted hW', fun target hrest => ?_⟩
  obtain ⟨hgo, hw⟩ := X.here.throwing a
  refine Steps.head hgo hw ?_
  have hf : ∀ (Q : Handler → Pre) (E : CtlPost) (d : Bool) (acts : List Action), wp (findHandler g a) Q E e d acts ((T.setTop g).pushFrame (.throwing a)) ↔ Q (.found hp) d acts (((T.setTop g).pushFrame (.throwing a)).setVm vm') := fun Q E d acts =>
    (Jvm.W.findHandler_eq (s := (T.setTop g).pushFrame (.throwing a)) X.method' X.code).trans (hq Q E d acts)
  have hstep : ∀ r : List Frame, (stepThrowing e ((T.setTop g).pushFrame (.throwing a)) a (.java g :: r)).1 = (((T.setTop g).pushFrame (.throwing a)).setVm vm').setFrames (.java { g with pc := hp, stack := [.ref a] } :: r) := by
    intro r
    simp only [stepThrowing, searchFrame, vmDo]
    generalize hr : Sem.go _ e false [] ((T.setTop g).pushFrame (.throwing a)) = res
    obtain ⟨as, rfl, ha⟩ := Sem.eq_ok_of hr (a := Handler.found hp) (s' := ((T.setTop g).pushFrame (.throwing a)).setVm vm') (acts' := []) (by simp [hf _ _ _ _])
    rfl
  rw [stepThread_throwing (frames_entered X.here.top _), hstep]
  obtain ⟨g₀, hg0⟩ := Option.isSome_iff_exists.mp X.here.top
  obtain ⟨r, hr⟩ := State.topJava?_eq_some.mp hg0
  have hr' : (T.setVm vm').frames = .java g₀ :: r := hr
  rw [State.setTop_of_frames _ hr'] at hrest
  rw [hr, List.tail_cons, State.pushFrame, ck_frames, State.setTop_of_frames _ hr, ck_frames]
  exact hrest
set_option maxHeartbeats 4000000 in
theorem J_catch {F : jFt} {K : jK} {nL : Nat} {R : Room} {cells slots : Nat} {ws : va_W} {lv : List (Nat × Value)} {rest st : List Value} {pc : Nat} {cc : ByteArray} {Ts : List Cond} {own : String} {tys : List (ClassId × FieldType)} (X : jX F K nL cc Ts own tys)
    {y : MethodName} {wd wd' : List Cond} {rm : Room} {b : Nat} {As : List Value} {wc : va_W} {cls : String} {index mL n : Nat} {C : String} {bytes : ByteArray} {ret : Option FieldType} {G : jFt} (hM : CTT G (jL K) (jD K) tys y wd rm (.ref b :: As) wc cls) (hGk : jFk G) (hGF : ∀ (A : Nat → Prop) (U : State) (H : Heap), F A U H → G A U H)
    (hG : GoodIn Ts (wsV own index C y wd)) (hw : wd = Cond.code y bytes mL ret :: wd') (hrc : rm.cells = 1) (hrs : rm.slots = 6) (hd : y.cls = C ∧ y.cls ≠ "java/lang/invoke/MethodHandle" ∧ y.cls ≠ "java/lang/invoke/VarHandle" ∧ (parseMethodDescriptor y.desc).map (fun d => d.parameters.length) = some n) (hR : rm.frames + 1 ≤ R.frames ∧ 8 + (mL + 11) + rm.locals ≤ R.locals)
    (isC : List Nat) (hC : isC.map (fun i => ws[i]?) = wc.map some) (hnC : va_nd isC = true) (q0 ci : Nat) {fs : List Value} {T : u_T} {N : Nat} (he : wc[q0]? = some (b, .inr (ci, fs))) (hcl : vwCl[ci]? = some (C, T, N)) (hn : As.length = n) (hst : st = As.reverse ++ .ref b :: rest) (hrest : (rest.map fun v => v.category).sum ≤ 8) (hdg : decode cc pc = .ok (.invokevirtual index, 3)) (hf : cells + 1 ≤ R.cells ∧ slots + 6 ≤ R.slots)
    {hp : Nat} (hck : ckOk own cls pc (jA K) (jS K) hp (jC K).exceptionTable.toList) (k : ∀ x : Nat, J K nL R false (cells + 1) (slots + 6) ws lv [.ref x] hp) : J K nL R false cells slots ws lv st pc := by
  intro H locs ls h hl T0 hT X0
  subst hst
  have hPc := h.1.sub isC (j_fm hC)
  have hDc := h.2.1.sub isC hnC hC
  have hFc := va_free (wc := wc) h.2.1 h.2.2.1 X.2.2.1 isC hC
  have hFF := hGF _ _ _ (X.2.2.2.1.2.2.2 _ _ _ _ hFc (X.2.2.2.1.2.2.1 _ _ _ H h.2.2.1.2.1 X.2.2.2.2))
  obtain ⟨cellB, hcB, hoB, hclB⟩ := va_recv X.2.1 hPc hcl he
  obtain ⟨⟨-, -, hfr, hlo, hws, hcw, hcode, hini, hy, hlen, hlk⟩, hin, hse⟩ := cwV (R := R) n X.1.2.2.2.2 hG hw rfl rfl hd hR
  obtain ⟨hx, hb, hml, ho, -⟩ := id X.1
  obtain ⟨mk, methM, hnamed, hmethM, hstM, habM⟩ := Cond.instanceMethod_spec hin
  obtain ⟨methM', cM, hmethM', hcM, -, hlM, -, -, -, hsigM⟩ := Cond.code_spec hnamed hcode
  cases hmethM.symm.trans hmethM'
  obtain ⟨c2, r2, m2, q1, q2, q3, q4, kP, hkP, hkPi⟩ := Cond.selects_spec hse
  cases hclB.symm.trans q1
  cases (State.methodFound?_of_named hnamed hy).symm.trans q2
  cases hnamed.symm.trans q3
  have hselP : selectMethod (jEv K).platform (jS K).vm cellB.cls mk = .method mk := by rw [Launch.admits_selectMethod X0.admits]; exact q4
  obtain ⟨vm₁, X₁, hstep₁⟩ := X0.invokevirtual hx ho hlk hnamed hmethM hstM hkP hkPi hy (a := b) (cell := cellB) (by rw [hT]; exact hcB)
    (fun z h => by rw [h] at hoB; cases hoB) hselP hmethM habM hkP hkPi (g := F0 (jM K) pc ls (As.reverse ++ .ref b :: rest)) rfl (argsL := As) (rest := rest) (hn.trans (hlen _ hsigM)) rfl (by rw [hb]; exact hdg)
  -- the call itself
  have hgs : (F0 (jM K) pc ls rest).locals.size = (jC K).maxLocals := hl.1.trans hml.symm
  have hdg' : decode (jC K).code (F0 (jM K) pc ls rest).pc = .ok (.invokevirtual index, 3) := by rw [hb]; exact hdg
  have hn1 : (T0.setVm vm₁).methodNamed? y = some mk := X₁.named hnamed
  have hcode1 : (Cond.code y bytes mL ret).before (Value.ref b :: As).toArray (T0.setVm vm₁) = true := hws _ hcw _ _ X₁.warmed
  have hini1 : (Cond.initialized y.cls).before (Value.ref b :: As).toArray (T0.setVm vm₁) = true := word_at X₁.warmed (Or.inl rfl) hini
  obtain ⟨methY, cY, hmY, hcY, -, hlY, -, -, -, -⟩ := Cond.code_spec hn1 hcode1
  obtain ⟨kY, hkY, -⟩ := className_of_methodNamed hn1
  have hinitY : kY.init = .initialized := Cond.initialized_spec (findClass_of_methodNamed hn1) hkY hini1
  have hat : At (T0.setVm vm₁) (F0 (jM K) pc ls rest).method (jC K) (jB K) := X₁.here
  have happ : (headSpec wd rm).appliesLoose y (jEv K).platform ((T0.setVm vm₁).calling (F0 (jM K) pc ls rest) mk (Value.ref b :: As).toArray) = true :=
    Spec.appliesLoose_calling (g := F0 (jM K) pc ls rest) hat hdg' hn1 hkY hinitY
      (X₁.room_calling (g := F0 (jM K) pc ls rest) (R' := (headSpec wd rm).room) hgs hmY hcY hfr (by
        show 2 * 0 + (rest.map fun v => v.category).sum + (cY.maxLocals + 11) + rm.locals ≤ R.locals
        rw [hlY]; omega) (by show cells + rm.cells ≤ R.cells; rw [hrc]; exact hf.1) (by show slots + rm.slots ≤ R.slots; rw [hrs]; exact hf.2)) (atoms_intro fun w hw => hws w hw _ _ X₁.warmed)
  obtain ⟨mid, hmid⟩ := hat.above
  have hfr2 : ((T0.setVm vm₁).setTop (F0 (jM K) pc ls rest)).frames = (.java (F0 (jM K) pc ls rest) :: mid) ++ (jB K) := by rw [State.frames_setTop' _ hat.top, hmid]; rfl
  have hh1 : (T0.setVm vm₁).heap = H := hT
  have hPre : va_Pc (.ref b :: As) (fun U => U.heap.size = H.size ∧ va_P (jD K) vwCl wc U.heap ∧ va_K (jD K) vwCl tys U ∧ va_D (fun _ => True) wc ∧ G (va_A wc H.size) U U.heap) (Value.ref b :: As).toArray ((T0.setVm vm₁).calling (F0 (jM K) pc ls rest) mk (Value.ref b :: As).toArray) :=
    j_pre hGk _ _ _ _ ⟨rfl, by rw [hh1], by rw [hh1]; exact hPc, va_K.moved X₁.warmed.alike X.2.1, hDc.weaken (fun _ _ _ _ => trivial), by rw [hh1]; exact hGk.1 _ _ _ _ X₁.warmed hFF⟩
  obtain ⟨o, s₂, hsteps, -, hend, hq⟩ := Steps.callFree (hM H.size) (jP K) X₁.admits X₁.cas X₁.clock (acts := []) hfr2 happ hPre trivial
  have hq' : jQt cls (Value.ref b :: As).toArray ((T0.setVm vm₁).calling (F0 (jM K) pc ls rest) mk (Value.ref b :: As).toArray) o s₂ := hq
  obtain ⟨xa, ce, rfl, hce, hcec, hcev, hxa, hkeep, hW₂, hsame⟩ := hq'
  rw [State.frames_setTop' _ hat.top] at hend
  have hcal : (T0.setVm vm₁).calling (F0 (jM K) pc ls rest) mk (Value.ref b :: As).toArray = (T0.setVm vm₁).setFrames (.invoking mk (Value.ref b :: As).toArray :: .java (F0 (jM K) pc ls rest) :: (T0.setVm vm₁).frames.tail) := State.calling_eq hat.top _ _ _
  obtain ⟨e2, s2, s3, s4, s5, s6⟩ := id hsame
  have e3 : s₂ = ({ ((T0.setVm vm₁).calling (F0 (jM K) pc ls rest) mk (Value.ref b :: As).toArray).setFrames s₂.frames with heap := s₂.heap, slotsUsed := s₂.slotsUsed } : State).setVm s₂.vm := by
    have z : s₂ = ({ s₂ with vm := ((T0.setVm vm₁).calling (F0 (jM K) pc ls rest) mk (Value.ref b :: As).toArray).vm } : State).setVm s₂.vm := rfl
    rw [e2] at z
    exact z
  have hf₂ : s₂.frames = .throwing xa :: .java (F0 (jM K) pc ls rest) :: (T0.setVm vm₁).frames.tail := hend
  have hW' : (T0.setVm vm₁).WarmedH s₂.vm := hW₂
  obtain ⟨g₀, hg0⟩ := Option.isSome_iff_exists.mp hat.top
  obtain ⟨r, hr⟩ := State.topJava?_eq_some.mp hg0
  have hs₂ : s₂ = ((({ T0.setVm vm₁ with heap := s₂.heap, slotsUsed := s₂.slotsUsed } : State).setVm s₂.vm).setTop (F0 (jM K) pc ls rest)).pushFrame (.throwing xa) := by
    have hr' : (({ T0.setVm vm₁ with heap := s₂.heap, slotsUsed := s₂.slotsUsed } : State).setVm s₂.vm).frames = .java g₀ :: r := hr
    refine e3.trans ?_
    rw [hf₂, hcal, State.setFrames_setFrames, State.pushFrame, State.frames_setTop _ hr', State.setTop_of_frames _ hr', State.setFrames_setFrames, hr]
    rfl
  have hsame2 : (T0.setVm vm₁).sameButNew ({ T0.setVm vm₁ with heap := s₂.heap, slotsUsed := s₂.slotsUsed } : State) [] 1 6 := by
    refine ⟨?_, s2, s3, s4, s5, s6⟩
    obtain ⟨t, ht, -⟩ := State.frames_cons hr
    show ({ T0.setVm vm₁ with heap := s₂.heap, slotsUsed := s₂.slotsUsed } : State) = { (T0.setVm vm₁).setFrames (T0.setVm vm₁).frames with heap := s₂.heap, slotsUsed := s₂.slotsUsed }
    rw [State.setFrames_self ht]
  have XB : Stand (jP K) (jL K) (jEv K) R (jS K) (jM K) (jA K) (jB K) (jMt K) (jC K) (({ T0.setVm vm₁ with heap := s₂.heap, slotsUsed := s₂.slotsUsed } : State).setVm s₂.vm) (locs ++ []) (cells + 1) (slots + 6) :=
    ⟨X₁.admits, X₁.cas, X₁.clock, X₁.frames, X₁.room, X₁.hears, X₁.method, X₁.code, (X₁.here.setHeapUsed s₂.heap s₂.slotsUsed).setVm hW'.alike, X₁.tail, State.WarmedH.trans X₁.warmed hW', X₁.limits, X₁.bytes, X₁.same.trans (hsame2.setVm (jS K).vm)⟩
  rw [List.append_nil] at XB
  obtain ⟨vm', X3, hgo3⟩ := ck_step XB (a := xa) (cell := ce) (g := F0 (jM K) pc ls rest) rfl (own := own) (cls := cls) (hp := hp) ho hce hcev (by
      have z : (T0.setVm vm₁).vm.findClass cls = some ce.cls := hcec
      rw [X₁.warmed.alike.findClass] at z
      exact z) hck
  have hkeep' : ∀ q : Nat, q < H.size → s₂.heap[q]? = H[q]? := fun q hq => by
    have z := hkeep q (by show q < (T0.setVm vm₁).heap.size; rw [hh1]; exact hq)
    rw [z]
    show (T0.setVm vm₁).heap[q]? = _
    rw [hh1]
  have hsz : H.size ≤ s₂.heap.size := by
    rcases Nat.lt_or_ge s₂.heap.size H.size with q | q
    · have z := hkeep' s₂.heap.size q
      rw [Array.getElem?_eq_none (Nat.le_refl _), Array.getElem?_eq_getElem q] at z
      cases z
    · exact q
  have hI : jI K false ws s₂.heap locs := by
    obtain ⟨hP, hD, hS, -⟩ := h
    refine ⟨hP.kept (fun k q hk => hkeep' q.1 (hP k q hk).lt), hD, ⟨Nat.le_trans hS.1 hsz, fun q h1 h2 => ?_, hS.2.2⟩, fun z => by cases z⟩
    rw [hkeep' q (Nat.lt_of_lt_of_le h1 hS.1)]
    exact hS.2.1 q h1 h2
  obtain ⟨t2, a1, b1⟩ := k xa s₂.heap locs ls hI hl ((({ T0.setVm vm₁ with heap := s₂.heap, slotsUsed := s₂.slotsUsed } : State).setVm s₂.vm).setVm vm') rfl X3
  refine ⟨t2, ?_, b1⟩
  refine hstep₁ _ fun acts => ?_
  rw [doInvoke_state]
  refine hsteps.trans ?_
  rw [hs₂]
  exact hgo3 t2 a1
