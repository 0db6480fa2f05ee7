/-! CONSTRUCTORS: the rows. What is new stands at addresses of which only that they are new is said. -/
def z0 : Int → Int := fun _ => 0
/-- the constructors that a nest mate calls -/
def nxW : List Cond := [.methodLinkNest R_Cek 11 y_Terms_init "CekMachine", .methodLinkNest R_Evaluator 11 y_Values_init "CekMachine", .methodLinkNest R_Evaluator 20 y_Meter_init "CekMachine", .methodLinkNest R_Evaluator 27 y_Waiting_init "CekMachine", .methodLinkNest R_Evaluator 34 y_Scopes_init "CekMachine"]
def jFn (cI cL cB : ClassId) : jFt := fun _ U _ => (U.vm.findClass ("[" ++ FieldType.int.toString) = some cI ∧ U.vm.findClass ("[" ++ FieldType.long.toString) = some cL ∧ U.vm.findClass ("[" ++ FieldType.byte.toString) = some cB) ∧ ∀ w ∈ nxW, va_Nw w U
theorem nx_warm {w : Cond} (hw : w ∈ nxW) {s U : State} (hW : s.WarmedH U.vm) (h : va_Nw w s) : va_Nw w U := by
  simp only [nxW, List.mem_cons, List.not_mem_nil, or_false] at hw
  rcases hw with rfl | rfl | rfl | rfl | rfl <;> exact va_Nw.warmM hW h
theorem nx_same {w : Cond} (hw : w ∈ nxW) {u U : State} (e : u.vm = U.vm) (h : va_Nw w u) : va_Nw w U := by
  simp only [nxW, List.mem_cons, List.not_mem_nil, or_false] at hw
  rcases hw with rfl | rfl | rfl | rfl | rfl <;> exact va_Nw.same rfl e h
theorem jFn_k {cI cL cB : ClassId} : jFk (jFn cI cL cB) := by
  refine ⟨fun A u U H hW h => ⟨⟨?_, ?_, ?_⟩, fun w hw => nx_warm hw hW (h.2 w hw)⟩, fun A u U H e h => ⟨by rw [← e]; exact h.1, fun w hw => nx_same hw e (h.2 w hw)⟩, fun A U H H1 hq h => h, fun A B U H hAB h => h⟩
  · rw [hW.alike.findClass]; exact h.1.1
  · rw [hW.alike.findClass]; exact h.1.2.1
  · rw [hW.alike.findClass]; exact h.1.2.2
section JN
variable {F : jFt} {K : jK} {nL : Nat} {R : Room} {cells slots : Nat} {ws : va_W} {lv : List (Nat × Value)} {rest st : List Value} {pc : Nat} {cc : ByteArray} {Ts : List Cond} {own : String} {tys : List (ClassId × FieldType)}
theorem J_objInit (X : jX F K nL cc Ts own tys) {pu : Bool} {idx a : Nat} (h1 : Cond.methodLink own idx Lib.objectInit ∈ Ts) (h2 : Cond.instanceMethod Lib.objectInit ∈ Ts) (h3 : Cond.code Lib.objectInit ⟨#[0xb1]⟩ 1 none ∈ Ts) (hfr : 1 ≤ R.frames) (hlo : (rest.map fun v => v.category).sum + 12 ≤ R.locals) (hd : decode cc pc = .ok (.invokespecial idx, 3)) (k : J K nL R pu cells slots ws lv rest (pc + 3)) : J K nL R pu cells slots ws lv (.ref a :: rest) pc :=
  fun H locs ls h hl => W.objInit X.1.1 X.1.2.1 X.1.2.2.2.1 (X.1.2.2.2.2 _ h1) (X.1.2.2.2.2 _ h2) (X.1.2.2.2.2 _ h3) rfl (hl.1.trans X.1.2.2.1.symm) rfl hd hfr (by show 2 * 0 + (rest.map fun v => v.category).sum + 12 ≤ R.locals; omega) (k H locs ls h hl)
theorem J_newa (X : jX F K nL cc Ts own tys) {atype : ArrayType} {ty : FieldType} (hty : newarray.typeOf atype = ty) (harr : Cond.arrayClass ty ∈ Ts) {cA : ClassId} (hcA : (jS K).vm.findClass ("[" ++ ty.toString) = some cA) {a0 : vp_A} {n : Int} {N' : Nat} (hn : ¬ zI n < 0) (hN : (zI n).toNatClampNeg = N') (ha : ∀ cA : ClassId, vp_cell cA a0 = arrV cA N' (fun _ => defaultValue ty)) (hb : N' * componentBytes ty ≤ 536870912) (hc : cells + 1 ≤ R.cells) (hs : slots + N' ≤ R.slots) (hd : decode cc pc = .ok (.newarray atype, 2))
    (k : ∀ q : Nat, J K nL R false (cells + 1) (slots + N') (ws ++ [(q, .inl (cA, a0))]) lv (.ref q :: rest) (pc + 2)) : J K nL R false cells slots ws lv (.int (zI n) :: rest) pc := by
  intro H locs ls h hl
  obtain ⟨hP, hD, hS, -⟩ := h
  subst hty
  refine va_newaK X.1.1 X.1.2.1 (X.1.2.2.2.2 _ harr) rfl hd rfl hn hN hb hc hs rfl fun H1 cA' e1 z1 o1 hAr hNm => ?_
  cases hcA.symm.trans hNm
  have hk : ∀ (k : Nat) (x : Nat × va_E), ws[k]? = some x → H1[x.1]? = H[x.1]? := fun k x hx => o1 x.1 ((hP k x hx).lt)
  refine k H.size H1 locs ls ⟨(hP.kept hk).app (fun k x hx => ?_), hD.push hP rfl (X.2.2.1 _ hS.1), ⟨Nat.le_trans hS.1 (by omega), fun x h1 h2 => (o1 x (Nat.lt_of_lt_of_le h1 hS.1)).trans (hS.2.1 x h1 h2), hS.2.2⟩, fun z => by cases z⟩ hl
  have hz : k < 1 := (List.getElem?_eq_some_iff.mp hx).1
  rw [show k = 0 by omega] at hx
  cases hx
  show H1[H.size]? = some (vp_cell cA a0)
  rw [ha]
  exact e1
theorem z0_int (N : Nat) (cA : ClassId) : vp_cell cA (N, .inl (zA z0)) = arrV cA N (fun _ => defaultValue .int) := rfl
theorem z0_byte (N : Nat) (cA : ClassId) : vp_cell cA (N, .inl (zA z0)) = arrV cA N (fun _ => defaultValue .byte) := rfl
theorem z0_long (N : Nat) (cA : ClassId) : vp_cell cA (N, .inr (.inl (zB z0))) = arrV cA N (fun _ => defaultValue .long) := rfl
theorem J_new (X : jX F K nL cc Ts own tys) {C : String} {T : u_T} {N ci index : Nat} (hin : ∀ w ∈ u_ws C T N, w ∈ Ts) (ty : Nat → FieldType) (hty : ∀ k, k < N → parseFieldDescriptor (T k).2.2.1 = some (ty k)) (hcl : Cond.classLink own index C ∈ Ts) (hinst : Cond.instantiable C N ∈ Ts) (hini : Cond.initialized C ∈ Ts) (hc : vwCl[ci]? = some (C, T, N)) {fs : List Value} (hfs : ∀ j, j < N → defaultValue (ty j) = vp_V fs j) (hcells : cells + 1 ≤ R.cells) (hslots : slots + N ≤ R.slots) (hd : decode cc pc = .ok (.new index, 3))
    (k : ∀ q : Nat, J K nL R false (cells + 1) (slots + N) (ws ++ [(q, .inr (ci, fs))]) lv (.ref q :: rest) (pc + 3)) : J K nL R false cells slots ws lv rest pc := by
  intro H locs ls h hl
  obtain ⟨hP, hD, hS, -⟩ := h
  exact va_new (D := jD K) (cl := vwCl) (tys := tys) X.1.1 X.1.2.1 X.1.2.2.2.2 hin ty hty X.1.2.2.2.1 (X.1.2.2.2.2 _ hcl) (X.1.2.2.2.2 _ hinst) (X.1.2.2.2.2 _ hini) X.2.1 hP hD hS X.2.2.1 hc hfs hcells hslots hd (fun q H1 h1 h2 h3 => k q H1 locs ls ⟨h1, h2, h3, fun z => by cases z⟩ hl)
theorem J_putF (X : jX F K nL cc Ts own tys) (hI : (jMt K).name = "<init>") {C : String} {T : u_T} {N ci index : Nat} (hin : ∀ w ∈ u_ws C T N, w ∈ Ts) (ty0 : Nat → FieldType) (hty : ∀ k, k < N → parseFieldDescriptor (T k).2.2.1 = some (ty0 k)) (hnm : ∀ a, a < N → ∀ b, b < N → a ≠ b → (T a).2.1 ≠ (T b).2.1) (q0 : Nat) {a : Nat} {fs : List Value} {v : Value} {ws' : va_W} (he : ws[q0]? = some (a, .inr (ci, fs))) (hc : vwCl[ci]? = some (C, T, N)) (k : Nat) (hk : k < N) (hl0 : Cond.fieldLink own index (T k).1 (T k).2.1 (T k).2.2.1 ∈ Ts) (hfin : (T k).2.2.2 = true) (hdecl : (T k).1 = own) (hn : narrow (ty0 k) v = v) (hfit : fits (ty0 k) v = true) (hl1 : k < fs.length) (hd : decode cc pc = .ok (.putfield index, 3)) (hw' : ws.set q0 (a, .inr (ci, fs.set k v)) = ws') (kk : J K nL R false cells slots ws' lv rest (pc + 3)) : J K nL R false cells slots ws lv (v :: .ref a :: rest) pc := by
  subst hw'
  exact fun H locs ls h hl => va_putF (D := jD K) (cl := vwCl) (tys := tys) X.1.1 X.1.2.1 X.1.2.2.2.2 hin ty0 hty hnm X.1.2.2.2.1 X.2.1 h.1 h.2.1 h.2.2.1 q0 he hc k hk (X.1.2.2.2.2 _ hl0) (fun _ z => z) hfin hI hdecl (hty k hk) hn hfit hl1 hd (fun H1 locs1 hP hD hS => kk H1 locs1 ls ⟨hP, hD, hS, fun z => by cases z⟩ hl)
end JN
/-- called with av where the heap holds ws: it returns; the heap then holds ws' at new addresses N; nothing else of what was there changed -/
def jQn (D : va_G) (ws : va_W) (ws' : (Nat → Nat) → va_W) (sz : Nat) : Array Value → State → Outcome → State → Prop := fun _ st o t => o = .returned none ∧ ∃ N : Nat → Nat, va_P D vwCl (ws' N) t.heap ∧ va_D (va_A ws sz) (ws' N) ∧ va_F (va_A ws sz) st t
def CN (F : jFt) (l : Launch) (D : va_G) (tys : List (ClassId × FieldType)) (y : MethodName) (wd : List Cond) (rm : Room) (av : List Value) (ws : va_W) (ws' : (Nat → Nat) → va_W) (mc ms : Nat) : Prop :=
  ∀ sz : Nat, Met l y wd rm (va_Pc av (fun U => U.heap.size = sz ∧ va_P D vwCl ws U.heap ∧ va_K D vwCl tys U ∧ va_D (fun _ => True) ws ∧ F (va_A ws sz) U U.heap)) (jQn D ws ws' sz) mc ms (fun q => va_A ws sz q)
def jEN (K : jK) (cc : ByteArray) (R : Room) (mc ms : Nat) (ws' : (Nat → Nat) → va_W) : Prop :=
  ∀ (N : Nat → Nat) (H : Heap) (locs : List Loc) (ls : Array Slot) (pc : Nat), decode cc pc = .ok (.return_, 1) → jI K false (ws' N) H locs → jW K R H locs mc ms (F0 (jM K) pc ls [])
theorem J_retN {K : jK} {nL : Nat} {R : Room} {cells slots : Nat} {lv : List (Nat × Value)} {pc : Nat} {cc : ByteArray} {mc ms : Nat} {ws' : (Nat → Nat) → va_W} {ws : va_W} (E : jEN K cc R mc ms ws') (N : Nat → Nat) (hd : decode cc pc = .ok (.return_, 1)) (h1 : cells ≤ mc) (h2 : slots ≤ ms) (hw : ws' N = ws) : J K nL R false cells slots ws lv [] pc := by
  subst hw
  exact fun H locs ls h _ => W.widen h1 h2 (E N H locs ls pc hd h)
theorem CN_of_J {F : jFt} {l : Launch} {D : va_G} {tys : List (ClassId × FieldType)} {y : MethodName} {wd wd' : List Cond} {rm : Room} {av : List Value} {ws : va_W} {ws' : (Nat → Nat) → va_W} {mc ms : Nat} {cc : ByteArray} {maxL : Nat}
    (hFk : jFk F) (hy : plainFor y = true) (hin : y.name = "<init>") (hw : wd = Cond.code y cc maxL none :: wd') (hlen : (lg_sl av).length ≤ maxL)
    (body : ∀ K : jK, jL K = l → jD K = D → jX F K maxL cc wd y.cls tys → (jMt K).name = "<init>" → jEN K cc rm mc ms ws' → J K maxL rm false 0 0 ws (lv_args 0 av) [] 0) : CN F l D tys y wd rm av ws ws' mc ms := by
  intro sz
  refine Met_ofWF (cc := cc) (maxL := maxL) (ret := none) hy hw ?_
  intro p e s m args below meth c s₁ B hml hv
  obtain ⟨rfl, hsz, hP, hK, hD0, hF0⟩ := hv
  have hts := atoms_spec (ws := wd) B.pre
  have hown : s.vm.findClass y.cls = some m.cls := findClass_of_methodNamed B.named
  have hin2 : meth.name = "<init>" := ((name_of_methodNamed B.named B.method).1).trans hin
  have hlocks := B.notSynchronized
  subst hsz
  have hD := hD0.self (sz := s.heap.size)
  have hl := lv_entry av (n := maxL) hlen
  rw [lg_entry_eq]
  generalize (lg_sl av ++ List.replicate (maxL - (lg_sl av).length) Slot.unset).toArray = ls at hl ⊢
  have hE : jEN ((p, l, e, s, m), (av.toArray, below, meth, c), (D, va_A ws s.heap.size, MQ below (jQn D ws ws' s.heap.size) av.toArray s mc ms (fun q => va_A ws s.heap.size q))) cc rm mc ms ws' := by
    intro N H locs ls pc hd h
    obtain ⟨hP, hD, hS, -⟩ := h
    have hq : ∀ t : State, t.heap = H → s.WarmedH t.vm → jQn D ws ws' s.heap.size av.toArray s (.returned none) t :=
      fun t ht _ => ⟨rfl, N, by rw [ht]; exact hP, hD, hS.F ht⟩
    exact W.vret (free := fun q => va_A ws s.heap.size q) B.exec B.bytes B.returns hq (fun q hq => hS.2.2 q hq) hd hlocks
  exact body ((p, l, e, s, m), (av.toArray, below, meth, c), (D, va_A ws s.heap.size, MQ below (jQn D ws ws' s.heap.size) av.toArray s mc ms (fun q => va_A ws s.heap.size q))) rfl rfl
    ⟨⟨B.exec, B.bytes, hml, hown, hts⟩, hK, fun q h => Or.inr h, hFk, hF0⟩ hin2 hE s.heap [] ls ⟨hP, hD, va_S.rf, fun z => by cases z⟩ hl
section JNC
variable {F : jFt} {K : jK} {nL : Nat} {R : Room} {cells slots : Nat} {ws : va_W} {lv : List (Nat × Value)} {rest st : List Value} {pc : Nat} {cc : ByteArray} {Ts : List Cond} {own : String} {tys : List (ClassId × FieldType)}
/-- behind a constructor's call -/
theorem J_afterN (X : jX F K nL cc Ts own tys) {wc : va_W} {wc' : (Nat → Nat) → va_W} {av : Array Value} {mc ms : Nat}
    (hr : ∀ (H : Heap) (locs : List Loc) (ls : Array Slot), jI K false ws H locs → lv_has ls nL lv → jRun K R H locs cells slots mc ms (F0 (jM K) pc ls st) rest (jQn (jD K) wc wc' H.size av) (fun q => va_A wc H.size q))
    (isC isR : List Nat) (wr : va_W) (hC : isC.map (fun i => ws[i]?) = wc.map some) (hR : isR.map (fun i => ws[i]?) = wr.map some) (hn : va_nd isR = true) (hdis : ∀ i ∈ isR, i ∉ isC)
    (k : ∀ N : Nat → Nat, J K nL R false (cells + mc) (slots + ms) (wr ++ wc' N) lv rest (pc + 3)) : J K nL R false cells slots ws lv st pc := by
  intro H locs ls h hl T hT X0
  obtain ⟨v', st₀, t, T', L, h0, X2, hL, e1, e2, ⟨hv, N, hP1, hD1, hz, hk⟩, hgo⟩ := hr H locs ls h hl T hT X0
  cases hv
  obtain ⟨hP, hD, hS, hpu⟩ := h
  rw [h0] at hz hk
  have hFc := va_free (wc := wc) hD hS X.2.2.1 isC hC
  obtain ⟨hP2, hD2⟩ := va_join (wr := wr) (w1 := wc' N) hP hD isC isR hC hR hn hdis hk hFc hP1 hD1
  have hS3 : va_S (jAr K) (jS K).heap T'.heap (locs ++ L) := ⟨Nat.le_trans hS.1 (by rw [e1]; exact hz), fun q h1 h2 => by
      rw [e1, hk q (Nat.lt_of_lt_of_le h1 hS.1) (fun z => h2 (hFc q z))]; exact hS.2.1 q h1 h2, fun q hq => by
      rcases List.mem_append.mp hq with h | h
      · exact hS.2.2 q h
      · exact hFc _ (hL q h)⟩
  obtain ⟨t2, a1, b1⟩ := k N T'.heap (locs ++ L) ls ⟨by rw [e1]; exact hP2, hD2, hS3, fun z => by cases z⟩ hl T' rfl X2
  exact ⟨t2, hgo t2 a1, b1⟩
theorem jrunI (X : jX F K nL cc Ts own tys) {y : MethodName} {wd wd' : List Cond} {rm : Room} {b : Nat} {As : List Value} {wc : va_W} {wc' : (Nat → Nat) → va_W} {mc ms index mL n : Nat} {bytes : ByteArray} {G : jFt} (hM : CN G (jL K) (jD K) tys y wd rm (.ref b :: As) wc wc' mc ms) (hGk : jFk G) (hGF : ∀ (A : Nat → Prop) (U : State) (H : Heap), F A U H → G A U H)
    (hG : GoodIn Ts wd) (hl1 : Cond.methodLink own index y ∈ Ts) (hin : Cond.instanceMethod y ∈ Ts) (hini : Cond.initialized y.cls ∈ Ts) (hy1 : y.name = "<init>") (hw : wd = Cond.code y bytes mL none :: wd') (hrc : rm.cells = mc) (hrs : rm.slots = ms) (hd : y.cls ≠ "java/lang/invoke/MethodHandle" ∧ y.cls ≠ "java/lang/invoke/VarHandle" ∧ (parseMethodDescriptor y.desc).map (fun d => d.parameters.length) = some n) (hR : rm.frames + 1 ≤ R.frames ∧ 8 + (mL + 11) + rm.locals ≤ R.locals)
    (isC : List Nat) (hC : isC.map (fun i => ws[i]?) = wc.map some) (hnC : va_nd isC = true) (hn : As.length = n) (hst : st = As.reverse ++ .ref b :: rest) (hrest : (rest.map fun v => v.category).sum ≤ 8) (hdg : decode cc pc = .ok (.invokespecial index, 3)) (hf : cells + mc ≤ R.cells ∧ slots + ms ≤ R.slots) :
    ∀ (H : Heap) (locs : List Loc) (ls : Array Slot), jI K false ws H locs → lv_has ls nL lv → jRun K R H locs cells slots mc ms (F0 (jM K) pc ls st) rest (jQn (jD K) wc wc' H.size (Value.ref b :: As).toArray) (fun q => va_A wc H.size q) := by
  intro H locs ls h hl
  subst hst
  have hPc := h.1.sub isC (j_fm hC)
  have hDc := h.2.1.sub isC hnC hC
  have hFc := va_free (wc := wc) h.2.1 h.2.2.1 X.2.2.1 isC hC
  have hFF := hGF _ _ _ (X.2.2.2.1.2.2.2 _ _ _ _ hFc (X.2.2.2.1.2.2.1 _ _ _ H h.2.2.1.2.1 X.2.2.2.2))
  exact va_runI X.1 (hM H.size) (cwI n X.1.2.2.2.2 hG hw hrc hrs (X.1.2.2.2.2 _ hini) (X.1.2.2.2.2 _ hl1) (X.1.2.2.2.2 _ hin) hy1 hd hR) ⟨j_pre hGk, fun U hU hW => ⟨rfl, by rw [hU], by rw [hU]; exact hPc, va_K.moved hW.alike X.2.1, hDc.weaken (fun _ _ _ _ => trivial), by rw [hU]; exact hGk.1 _ _ _ _ hW hFF⟩⟩ rfl hn hl.1 rfl (lv_room hrest) hdg hf
theorem jrunIN (X : jX F K nL cc Ts own tys) {y : MethodName} {host : String} {wd wd' : List Cond} {rm : Room} {b : Nat} {As : List Value} {wc : va_W} {wc' : (Nat → Nat) → va_W} {mc ms index mL n : Nat} {bytes : ByteArray} {G : jFt} (hM : CN G (jL K) (jD K) tys y wd rm (.ref b :: As) wc wc' mc ms) (hGk : jFk G) (hGF : ∀ (A : Nat → Prop) (U : State) (H : Heap), F A U H → G A U H)
    (hG : GoodIn Ts wd) (hl1 : va_Nw (.methodLinkNest own index y host) (jS K)) (hin : Cond.instanceMethod y ∈ Ts) (hini : Cond.initialized y.cls ∈ Ts) (hy1 : y.name = "<init>") (hw : wd = Cond.code y bytes mL none :: wd') (hrc : rm.cells = mc) (hrs : rm.slots = ms) (hd : y.cls ≠ "java/lang/invoke/MethodHandle" ∧ y.cls ≠ "java/lang/invoke/VarHandle" ∧ (parseMethodDescriptor y.desc).map (fun d => d.parameters.length) = some n) (hR : rm.frames + 1 ≤ R.frames ∧ 8 + (mL + 11) + rm.locals ≤ R.locals)
    (isC : List Nat) (hC : isC.map (fun i => ws[i]?) = wc.map some) (hnC : va_nd isC = true) (hn : As.length = n) (hst : st = As.reverse ++ .ref b :: rest) (hrest : (rest.map fun v => v.category).sum ≤ 8) (hdg : decode cc pc = .ok (.invokespecial index, 3)) (hf : cells + mc ≤ R.cells ∧ slots + ms ≤ R.slots) :
    ∀ (H : Heap) (locs : List Loc) (ls : Array Slot), jI K false ws H locs → lv_has ls nL lv → jRun K R H locs cells slots mc ms (F0 (jM K) pc ls st) rest (jQn (jD K) wc wc' H.size (Value.ref b :: As).toArray) (fun q => va_A wc H.size q) := by
  intro H locs ls h hl
  subst hst
  have hPc := h.1.sub isC (j_fm hC)
  have hDc := h.2.1.sub isC hnC hC
  have hFc := va_free (wc := wc) h.2.1 h.2.2.1 X.2.2.1 isC hC
  have hFF := hGF _ _ _ (X.2.2.2.1.2.2.2 _ _ _ _ hFc (X.2.2.2.1.2.2.1 _ _ _ H h.2.2.1.2.1 X.2.2.2.2))
  exact va_runIN X.1 (hM H.size) ⟨va_cnB n X.1.2.2.2.2 hG hw hrc hrs hl1 (X.1.2.2.2.2 _ hini) hd hR, hy1, X.1.2.2.2.2 _ hin⟩ ⟨j_pre hGk, fun U hU hW => ⟨rfl, by rw [hU], by rw [hU]; exact hPc, va_K.moved hW.alike X.2.1, hDc.weaken (fun _ _ _ _ => trivial), by rw [hU]; exact hGk.1 _ _ _ _ hW hFF⟩⟩ rfl hn hl.1 rfl (lv_room hrest) hdg hf
end JNC
theorem jgI {y : MethodName} {b : ByteArray} {mL : Nat} {c0 : Cond} {wo : List Cond} (ho : ∀ w ∈ wo, w ∈ wA) (h : Cond.code y b mL none ∈ wo) : GoodIn (c0 :: wA) (.code y b mL none :: wA) := by
  intro w hw
  rcases List.mem_cons.mp hw with q | q
  · rw [q]; exact ⟨List.mem_cons_of_mem _ (ho _ h), j_gd (ho _ h)⟩
  · exact ⟨List.mem_cons_of_mem _ q, j_gd q⟩
