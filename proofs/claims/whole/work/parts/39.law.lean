/-! THE LAW'S HELPERS: each calls one method of the class, stores its answer, and says by a number what was thrown. -/
/-- the rows of a table, as the word codeWith has them -/
def ckT (own cls : String) (pc : Nat) (args : Array Value) (s : State) (hp : Nat) : List (Nat × Nat × Nat × Nat) → Prop
  | [] => False
  | x :: t => (x.1 ≤ pc ∧ pc < x.2.1) ∧ x.2.2.2 ≠ 0 ∧ ∃ name : String, (Cond.classLink own x.2.2.2 name).before args s = true ∧ ((ckA cls name true s ∧ x.2.2.1 = hp) ∨ (ckA cls name false s ∧ ckT own cls pc args s hp t))
theorem ckT_ok {own cls : String} {pc : Nat} {args : Array Value} {s : State} {hp : Nat} : ∀ tbl : List ExceptionTableEntry, ckT own cls pc args s hp (tbl.map (fun h => (h.startPc, h.endPc, h.handlerPc, h.catchType))) → ckOk own cls pc args s hp tbl
  | [], h => h.elim
  | x :: t, h => by
    obtain ⟨h1, h2, name, h3, h4⟩ := h
    exact ⟨by simp [covers, h1.1, h1.2], h2, name, h3, h4.imp id (fun q => ⟨q.1, ckT_ok t q.2⟩)⟩
theorem CTW_of_J {F : jFt} {pu : Bool} {l : Launch} {D : va_G} {tys : List (ClassId × FieldType)} {y : MethodName} {wd wd' : List Cond} {rm : Room} {av : List Value} {ws : va_W} {v : Option Value} {ws' : va_W} {mc ms : Nat} {cc : ByteArray} {maxL : Nat} {ret : Option FieldType} {hh : List (Nat × Nat × Nat × Nat)}
    (hFk : jFk F) (hy : plainName y.cls = true) (hw : wd = Cond.codeWith y cc maxL ret hh :: wd') (hlen : (lg_sl av).length ≤ maxL)
    (body : ∀ K : jK, jL K = l → jD K = D → jX F K maxL cc wd y.cls tys → jE K cc ret rm pu mc ms v ws' → (jC K).exceptionTable.toList.map (fun h => (h.startPc, h.endPc, h.handlerPc, h.catchType)) = hh → J K maxL rm pu 0 0 ws (lv_args 0 av) [] 0) : CT F pu l D tys y wd rm av ws v ws' mc ms := by
  intro sz
  refine va_MetW (cc := cc) (maxL := maxL) (ret := ret) (hh := hh) hy hw ?_
  intro p e s m args below meth c s₁ B hml hv
  obtain ⟨rfl, hsz, hP, hK, hD0, hF0⟩ := hv
  have hts := atoms_spec (ws := wd) B.pre
  have hown : s.vm.findClass y.cls = some m.cls := findClass_of_methodNamed B.named
  have hlocks := B.notSynchronized
  have htb : c.exceptionTable.toList.map (fun h => (h.startPc, h.endPc, h.handlerPc, h.catchType)) = hh := by
    obtain ⟨m9, meth9, c9, hn9, h1, h2, -, -, h5, -⟩ := Cond.codeWith_spec (hts _ (by rw [hw]; exact List.mem_cons_self))
    have X0 := Stand.of_body B
    cases B.named.symm.trans hn9
    cases X0.method.symm.trans h1
    cases X0.code.symm.trans h2
    exact h5
  subst hsz
  have hD := hD0.self (sz := s.heap.size)
  have hl := lv_entry av (n := maxL) hlen
  rw [lg_entry_eq]
  generalize (lg_sl av ++ List.replicate (maxL - (lg_sl av).length) Slot.unset).toArray = ls at hl ⊢
  have hE : jE ((p, l, e, s, m), (av.toArray, below, meth, c), (D, va_A ws s.heap.size, MQ below (jQc pu D ws v ws' s.heap.size) av.toArray s mc ms (fun q => pu = false ∧ va_A ws s.heap.size q))) cc ret rm pu mc ms v ws' := by
    intro H locs ls pc hok hd h
    obtain ⟨hP, hD, hS, hpu⟩ := h
    have hfree : ∀ q ∈ locs, pu = false ∧ va_A ws s.heap.size q.base := by
      intro q hq
      cases pu with
      | false => exact ⟨rfl, hS.2.2 q hq⟩
      | true =>
        have e0 := (hpu rfl).2
        subst e0
        cases hq
    have hq : ∀ t : State, t.heap = H → s.WarmedH t.vm → jQc pu D ws v ws' s.heap.size av.toArray s (.returned v) t :=
      fun t ht _ => ⟨rfl, by rw [ht]; exact hP, hD, hS.F ht, fun z => by rw [ht]; exact (hpu z).1⟩
    cases v with
    | none => exact W.vret (free := fun q => pu = false ∧ va_A ws s.heap.size q) B.exec B.bytes (B.returns.trans hok) hq hfree hd hlocks
    | some w =>
      cases w with
      | int z =>
        obtain ⟨ty, h1, h2⟩ := hok
        exact W.zret (free := fun q => pu = false ∧ va_A ws s.heap.size q) B.exec B.bytes (B.returns.trans h1) h2 hq hfree hd hlocks
      | long z => exact W.lret (free := fun q => pu = false ∧ va_A ws s.heap.size q) B.exec B.bytes (B.returns.trans hok) hq hfree hd hlocks
      | ref z =>
        obtain ⟨rt, h1, h2⟩ := hok
        exact W.aret (free := fun q => pu = false ∧ va_A ws s.heap.size q) B.exec B.bytes (B.returns.trans h1) h2 (Or.inr ⟨z, rfl⟩) hq hfree hd hlocks
      | _ => exact False.elim hok
  exact body ((p, l, e, s, m), (av.toArray, below, meth, c), (D, va_A ws s.heap.size, MQ below (jQc pu D ws v ws' s.heap.size) av.toArray s mc ms (fun q => pu = false ∧ va_A ws s.heap.size q))) rfl rfl
    ⟨⟨B.exec, B.bytes, hml, hown, hts⟩, hK, fun q h => Or.inr h, hFk, hF0⟩ hE htb s.heap [] ls ⟨hP, hD, va_S.rf, fun _ => ⟨rfl, rfl⟩⟩ hl
theorem jrunSW {F : jFt} {K : jK} {nL : Nat} {R : Room} {pu : Bool} {cells slots : Nat} {ws : va_W} {lv : List (Nat × Value)} {rest st : List Value} {pc : Nat} {cc : ByteArray} {Ts : List Cond} {own : String} {tys : List (ClassId × FieldType)} (X : jX F K nL cc Ts own tys) {pq : Bool} {y : MethodName} {wd wd' : List Cond} {rm : Room} {As : List Value} {wc wc' : va_W} {v : Option Value} {mc ms index mL n : Nat} {bytes : ByteArray} {ret : Option FieldType} {hh : List (Nat × Nat × Nat × Nat)} {G : jFt} (hM : CT G pq (jL K) (jD K) tys y wd rm As wc v wc' mc ms) (hGk : jFk G) (hGF : ∀ (A : Nat → Prop) (U : State) (H : Heap), F A U H → G A U H)
    (hG : GoodIn Ts (va_wsS own index y wd)) (hw : wd = Cond.codeWith y bytes mL ret hh :: wd') (hrc : rm.cells = mc) (hrs : rm.slots = ms) (hd : y.cls ≠ "java/lang/invoke/MethodHandle" ∧ y.cls ≠ "java/lang/invoke/VarHandle" ∧ (parseMethodDescriptor y.desc).map (fun d => d.parameters.length) = some n) (hR : rm.frames + 1 ≤ R.frames ∧ 8 + (mL + 11) + rm.locals ≤ R.locals)
    (isC : List Nat) (hC : isC.map (fun i => ws[i]?) = wc.map some) (hnC : va_nd isC = true) (hn : As.length = n) (hst : st = As.reverse ++ rest) (hrest : (rest.map fun v => v.category).sum ≤ 8) (hdg : decode cc pc = .ok (.invokestatic index, 3)) (hf : cells + mc ≤ R.cells ∧ slots + ms ≤ R.slots) :
    ∀ (H : Heap) (locs : List Loc) (ls : Array Slot), jI K pu ws H locs → lv_has ls nL lv → jRun K R H locs cells slots mc ms (F0 (jM K) pc ls st) rest (jQc pq (jD K) wc v wc' H.size As.toArray) (fun q => pq = false ∧ va_A wc H.size q) := by
  intro H locs ls h hl
  subst hst
  have hPc := h.1.sub isC (j_fm hC)
  have hDc := h.2.1.sub isC hnC hC
  have hFc := va_free (wc := wc) h.2.1 h.2.2.1 X.2.2.1 isC hC
  have hFF := hGF _ _ _ (X.2.2.2.1.2.2.2 _ _ _ _ hFc (X.2.2.2.1.2.2.1 _ _ _ H h.2.2.1.2.1 X.2.2.2.2))
  have ok : ∀ w ∈ va_wsS own index y wd, w.before (jA K) (jS K) = true := fun w hq => X.1.2.2.2.2 w (hG w hq).1
  have hGw : GoodIn Ts wd := fun w hq => hG w (by unfold va_wsS; exact List.mem_append_right _ hq)
  have hcw : Cond.codeWith y bytes mL ret hh ∈ wd := by rw [hw]; exact List.mem_cons_self
  have hini : (Cond.initialized y.cls).before (jA K) (jS K) = true := ok _ (by simp [va_wsS])
  have hK : Back (jL K) R (jP K) (jEv K) (jB K) (jS K) (jA K) y 3 8 (PreOf R mc ms _) (PostOf _ mc ms _) := va_backW (hh := hh) (bytes := bytes) (maxL := mL) (ret := ret) (hM H.size) (j_pre hGk) hrc hrs hR.1 hR.2 (pay_in X.1.2.2.2.2 hGw) hcw (fun a' U hW => word_at hW (Or.inl rfl) hini)
  obtain ⟨hx, hb, hml, ho, -⟩ := id X.1
  intro T hT X0
  obtain ⟨mk, methM, cM, hnamed, hmethM, -, -, -, -, -, -, hsigM⟩ := Cond.codeWith_spec (X.1.2.2.2.2 _ (hGw _ hcw).1)
  have hstatic : methM.isStatic = true := Cond.static_spec hnamed hmethM (ok (.static y) (by simp [va_wsS]))
  obtain ⟨kP, hkP, -⟩ := className_of_methodNamed hnamed
  have hinitP : kP.init = .initialized := Cond.initialized_spec (findClass_of_methodNamed hnamed) hkP hini
  have hlen : As.length = methM.sig.parameters.length := by
    have z := hd.2.2
    rw [hsigM] at z
    exact hn.trans (Option.some.inj z).symm
  obtain ⟨vm₁, X₁, hstep₁⟩ := X0.invokestatic hx ho (ok (.methodLink own index y) (by simp [va_wsS])) hnamed hmethM hstatic hkP hinitP ⟨hd.1, hd.2.1⟩ (g := F0 (jM K) pc ls (As.reverse ++ rest)) rfl (argsL := As) (rest := rest) hlen rfl (by rw [hb]; exact hdg)
  obtain ⟨v', B, X', ⟨g', mk', t, L, e1, e2, hq, h1, hL, h2, h3⟩, hsteps⟩ := hK (jM K) (jMt K) (jC K) ⟨T.setVm vm₁, locs, cells, slots⟩ (F0 (jM K) pc ls rest) (.invokestatic index) mk As.toArray X₁ rfl (hl.1.trans hml.symm) (by rw [hb]; exact hdg) (lv_room hrest) (X₁.named hnamed)
    ⟨hf.1, hf.2, ⟨rfl, by rw [show (T.setVm vm₁).heap = H from hT], by rw [show (T.setVm vm₁).heap = H from hT]; exact hPc, va_K.moved X₁.warmed.alike X.2.1, hDc.weaken (fun _ _ _ _ => trivial), by rw [show (T.setVm vm₁).heap = H from hT]; exact hGk.1 _ _ _ _ X₁.warmed hFF⟩⟩
  obtain ⟨U', l2, c2, s2⟩ := B
  dsimp only [Pt.U, Pt.locs, Pt.cells, Pt.slots] at X' e1 e2 h1 h2 h3 hsteps hq
  subst h1; subst h2; subst h3
  exact ⟨v', (T.setVm vm₁).calling g' mk' As.toArray, t, U', L, hT, X', hL, e1, e2, hq, fun target h => hstep₁ _ fun acts => by rw [doInvoke_state]; exact hsteps.trans h⟩
abbrev b_Law_node : ByteArray := method_3_code
def y_Law_node : MethodName := ⟨R_Law, "node", "(LCekMachine;IJ[J)I"⟩
abbrev b_Law_bytes : ByteArray := method_4_code
def y_Law_bytes : MethodName := ⟨R_Law, "bytes", "(LCekMachine;JI[J)I"⟩
abbrev b_Law_run : ByteArray := method_5_code
def y_Law_run : MethodName := ⟨R_Law, "run", "(LCekMachine;II[J)I"⟩
abbrev b_Law_number : ByteArray := method_6_code
def y_Law_number : MethodName := ⟨R_Law, "number", "(LCekMachine;[J)I"⟩
abbrev b_Law_dataValue : ByteArray := method_7_code
def y_Law_dataValue : MethodName := ⟨R_Law, "dataValue", "(LCekMachine;I[J)I"⟩
/-- the words of the law's helpers -/
def wo_Law : List Cond := [.classLink R_Law 13 "java/lang/IllegalArgumentException", .classLink R_Law 15 "java/lang/IllegalStateException", .initialized R_Cek, .methodLink R_Law 7 y_Cek_node, .instanceMethod y_Cek_node, .selects R_Cek y_Cek_node y_Cek_node, .code y_Cek_node b_Cek_node 4 (some .int), .methodLink R_Law 17 y_Cek_bytes, .instanceMethod y_Cek_bytes, .selects R_Cek y_Cek_bytes y_Cek_bytes, .code y_Cek_bytes b_Cek_bytes 4 (some .int), .methodLink R_Law 21 y_Cek_run, .instanceMethod y_Cek_run, .selects R_Cek y_Cek_run y_Cek_run, .code y_Cek_run b_Cek_run 3 (some .int), .methodLink R_Law 25 y_Cek_number, .instanceMethod y_Cek_number, .selects R_Cek y_Cek_number y_Cek_number, .code y_Cek_number b_Cek_number 2 (some .long), .methodLink R_Law 29 y_Cek_dataValue, .instanceMethod y_Cek_dataValue, .selects R_Cek y_Cek_dataValue y_Cek_dataValue, .code y_Cek_dataValue b_Cek_dataValue 4 (some .long)]
theorem wo_Law_good : wo_Law.all goodWord = true := by decide +kernel
theorem jl_x {w c : Cond} (h : w ∈ wo_Law) : w ∈ c :: (wo_Law ++ (wX ++ wA)) := List.mem_cons_of_mem _ (List.mem_append_left _ h)
theorem wX_gd {w : Cond} (h : w ∈ wX) : (w.onTables && w.keeps) = true ∨ ∃ ty, w = .arrayClass ty := good_of_word (List.all_eq_true.mp wX_good w h)
theorem wL_gd {w : Cond} (h : w ∈ wo_Law) : (w.onTables && w.keeps) = true ∨ ∃ ty, w = .arrayClass ty := good_of_word (List.all_eq_true.mp wo_Law_good w h)
theorem jlV {idx : Nat} {y : MethodName} {b : ByteArray} {mL : Nat} {r : Option FieldType} {c0 : Cond} (h : ∀ w ∈ ([.methodLink R_Law idx y, .instanceMethod y, .selects R_Cek y y, .initialized R_Cek, .code y b mL r] : List Cond), w ∈ wo_Law) : GoodIn (c0 :: (wo_Law ++ (wX ++ wA))) (wsV R_Law idx R_Cek y (.code y b mL r :: wA)) := by
  intro w hw
  rcases List.mem_append.mp hw with q | q
  · have z : w ∈ wo_Law := h w (by simp only [List.mem_cons, List.not_mem_nil, or_false] at q ⊢; rcases q with q | q | q | q <;> simp [q])
    exact ⟨jl_x z, wL_gd z⟩
  · rcases List.mem_cons.mp q with q | q
    · have z : w ∈ wo_Law := h w (by simp [q])
      exact ⟨jl_x z, wL_gd z⟩
    · exact ⟨List.mem_cons_of_mem _ (List.mem_append_right _ (List.mem_append_right _ q)), j_gd q⟩
theorem jlT {idx : Nat} {y : MethodName} {b : ByteArray} {mL : Nat} {r : Option FieldType} {c0 : Cond} (h : ∀ w ∈ ([.methodLink R_Law idx y, .instanceMethod y, .selects R_Cek y y, .initialized R_Cek, .code y b mL r] : List Cond), w ∈ wo_Law) : GoodIn (c0 :: (wo_Law ++ (wX ++ wA))) (wsV R_Law idx R_Cek y (.code y b mL r :: (wX ++ wA))) := by
  intro w hw
  rcases List.mem_append.mp hw with q | q
  · have z : w ∈ wo_Law := h w (by simp only [List.mem_cons, List.not_mem_nil, or_false] at q ⊢; rcases q with q | q | q | q <;> simp [q])
    exact ⟨jl_x z, wL_gd z⟩
  · rcases List.mem_cons.mp q with q | q
    · have z : w ∈ wo_Law := h w (by simp [q])
      exact ⟨jl_x z, wL_gd z⟩
    · rcases List.mem_append.mp q with q2 | q2
      · exact ⟨List.mem_cons_of_mem _ (List.mem_append_right _ q), wX_gd q2⟩
      · exact ⟨List.mem_cons_of_mem _ (List.mem_append_right _ q), j_gd q2⟩
abbrev wl_node : List Cond := .codeWith y_Law_node b_Law_node 6 (some .int) [(0, 11, 14, 13), (0, 11, 18, 15)] :: (wo_Law ++ (wX ++ wA))
theorem d_Law_node_0 : decode b_Law_node 0 = .ok (.aload 4, 2) := by decide +kernel
theorem d_Law_node_2 : decode b_Law_node 2 = .ok (.iconst 0, 1) := by decide +kernel
theorem d_Law_node_3 : decode b_Law_node 3 = .ok (.aload_n 0, 1) := by decide +kernel
theorem d_Law_node_4 : decode b_Law_node 4 = .ok (.iload_n 1, 1) := by decide +kernel
theorem d_Law_node_5 : decode b_Law_node 5 = .ok (.lload_n 2, 1) := by decide +kernel
theorem d_Law_node_6 : decode b_Law_node 6 = .ok (.invokevirtual 7, 3) := by decide +kernel
theorem d_Law_node_9 : decode b_Law_node 9 = .ok (.i2l, 1) := by decide +kernel
theorem d_Law_node_10 : decode b_Law_node 10 = .ok (.lastore, 1) := by decide +kernel
theorem d_Law_node_11 : decode b_Law_node 11 = .ok (.goto 11, 3) := by decide +kernel
theorem d_Law_node_14 : decode b_Law_node 14 = .ok (.astore 5, 2) := by decide +kernel
theorem d_Law_node_16 : decode b_Law_node 16 = .ok (.iconst 1, 1) := by decide +kernel
theorem d_Law_node_17 : decode b_Law_node 17 = .ok (.ireturn, 1) := by decide +kernel
theorem d_Law_node_18 : decode b_Law_node 18 = .ok (.astore 5, 2) := by decide +kernel
theorem d_Law_node_20 : decode b_Law_node 20 = .ok (.iconst 2, 1) := by decide +kernel
theorem d_Law_node_21 : decode b_Law_node 21 = .ok (.ireturn, 1) := by decide +kernel
theorem d_Law_node_22 : decode b_Law_node 22 = .ok (.iconst 0, 1) := by decide +kernel
theorem d_Law_node_23 : decode b_Law_node 23 = .ok (.ireturn, 1) := by decide +kernel
set_option maxHeartbeats 4000000 in
set_option maxRecDepth 100000 in
theorem cl_node {l : Launch} {D : va_G} {cI cL cB : ClassId} {ad : Nat → Nat} {adK adV : Nat → Nat} {ro : Nat} {ao : Nat} {o : Int → Int} {C_answer : Int} {T_nodes : Int} {T_count : Int} {T_kinds : Int → Int} {T_args : Int → Int} {T_firsts : Int → Int} {T_lacks : Int → Int} {p1 : Int} {p2 : Int} {out : Int × Int × Int × (Int → Int) × (Int → Int) × (Int → Int) × (Int → Int)} (h : f_Cek_node T_nodes T_count T_kinds T_args T_firsts T_lacks p1 p2 = some out) (g : rI (out.1) = true) : CT (jFc adK adV ro) false l D [(cI, .int), (cL, .long), (cB, .byte)] y_Law_node wl_node ({ frames := 7, cells := 1, slots := 6, locals := 133 } : Room) [.ref (ad 0), .int (zI p1), .long (zL p2), .ref ao] [(ad 0, .inr (0, [.ref (ad 1), .ref (ad 8), .int (zI C_answer)])), (ad 1, .inr (1, [.ref (ad 2), .ref (ad 3), .ref (ad 4), .ref (ad 5), .ref (ad 6), .int (zI T_nodes), .int (zI T_count)])), (ad 2, .inl (cI, 200, .inl (zA T_kinds))), (ad 3, .inl (cL, 200, .inr (.inl (zB T_args)))), (ad 4, .inl (cI, 200, .inl (zA T_firsts))), (ad 5, .inl (cI, 200, .inl (zA T_lacks))), (ao, .inl (cL, 1, .inr (.inl (zB o))))] (some (.int (zI 0))) [(ad 0, .inr (0, [.ref (ad 1), .ref (ad 8), .int (zI C_answer)])), (ad 1, .inr (1, [.ref (ad 2), .ref (ad 3), .ref (ad 4), .ref (ad 5), .ref (ad 6), .int (zI (out.2.1)), .int (zI (out.2.2.1))])), (ad 2, .inl (cI, 200, .inl (zA (out.2.2.2.1)))), (ad 3, .inl (cL, 200, .inr (.inl (zB (out.2.2.2.2.1))))), (ad 4, .inl (cI, 200, .inl (zA (out.2.2.2.2.2.1)))), (ad 5, .inl (cI, 200, .inl (zA (out.2.2.2.2.2.2)))), (ao, .inl (cL, 1, .inr (.inl (zB (upZ o 0 (out.1))))))] 1 6 := by
  refine CTW_of_J (cc := b_Law_node) (maxL := 6) (ret := (some .int)) (hh := [(0, 11, 14, 13), (0, 11, 18, 15)]) jFc_k (by decide) rfl (Nat.le_of_ble_eq_true rfl) ?_
  intro K hKl hKD X E htb
  subst hKl; subst hKD
  refine J_aload X d_Law_node_0 3 rfl ?_
  refine J_iconst X d_Law_node_2 ?_
  refine J_aload_n X d_Law_node_3 rfl 0 rfl ?_
  refine J_iload_n X d_Law_node_4 rfl 1 rfl ?_
  refine J_lload_n X d_Law_node_5 rfl 2 rfl ?_
  refine J_afterI0 (ws' := [(ad 0, .inr (0, [.ref (ad 1), .ref (ad 8), .int (zI C_answer)])), (ad 1, .inr (1, [.ref (ad 2), .ref (ad 3), .ref (ad 4), .ref (ad 5), .ref (ad 6), .int (zI (out.2.1)), .int (zI (out.2.2.1))])), (ad 2, .inl (cI, 200, .inl (zA (out.2.2.2.1)))), (ad 3, .inl (cL, 200, .inr (.inl (zB (out.2.2.2.2.1))))), (ad 4, .inl (cI, 200, .inl (zA (out.2.2.2.2.2.1)))), (ad 5, .inl (cI, 200, .inl (zA (out.2.2.2.2.2.2)))), (ao, .inl (cL, 1, .inr (.inl (zB o))))]) X (jrunV X (c_Cek_node (ad := ad) h) jF0_k (fun _ _ _ _ => trivial) (jlV (by decide +kernel)) rfl rfl rfl pd_Cek_node (by decide) [0, 1, 2, 3, 4, 5] rfl (by decide) 0 0 rfl rfl rfl rfl (Nat.le_of_ble_eq_true rfl) d_Law_node_6 (by decide)) [0, 1, 2, 3, 4, 5] [6] [1, 2, 3, 4, 5, 6, 0] rfl rfl (by decide) (by decide) rfl (by decide) ?_
  refine J_i2l X g d_Law_node_9 ?_
  refine J_last X 6 1 rfl rfl (by decide) d_Law_node_10 rfl ?_
  refine J_goto (tgt := 22) X d_Law_node_11 (by decide) ?_
  refine J_iconst X d_Law_node_22 ?_
  exact J_ret E ⟨_, rfl, rfl⟩ d_Law_node_23 (by decide) (by decide) rfl
set_option maxHeartbeats 4000000 in
set_option maxRecDepth 100000 in
theorem cx1_node {l : Launch} {D : va_G} {cI cL cB : ClassId} {ad : Nat → Nat} {adK adV : Nat → Nat} {ro : Nat} {ao : Nat} {o : Int → Int} {C_answer : Int} {T_nodes : Int} {T_count : Int} {T_kinds : Int → Int} {T_args : Int → Int} {T_firsts : Int → Int} {T_lacks : Int → Int} {p1 : Int} {p2 : Int} (hfl : l.flags = pinnedFlags ++ [noTraceFlag]) (h : t_Cek_node T_nodes T_count p1 p2 = some 1) : CT (jFc adK adV ro) false l D [(cI, .int), (cL, .long), (cB, .byte)] y_Law_node wl_node ({ frames := 7, cells := 1, slots := 6, locals := 133 } : Room) [.ref (ad 0), .int (zI p1), .long (zL p2), .ref ao] [(ad 0, .inr (0, [.ref (ad 1), .ref (ad 8), .int (zI C_answer)])), (ad 1, .inr (1, [.ref (ad 2), .ref (ad 3), .ref (ad 4), .ref (ad 5), .ref (ad 6), .int (zI T_nodes), .int (zI T_count)])), (ad 2, .inl (cI, 200, .inl (zA T_kinds))), (ad 3, .inl (cL, 200, .inr (.inl (zB T_args)))), (ad 4, .inl (cI, 200, .inl (zA T_firsts))), (ad 5, .inl (cI, 200, .inl (zA T_lacks))), (ao, .inl (cL, 1, .inr (.inl (zB o))))] (some (.int (zI 1))) [(ad 0, .inr (0, [.ref (ad 1), .ref (ad 8), .int (zI C_answer)])), (ad 1, .inr (1, [.ref (ad 2), .ref (ad 3), .ref (ad 4), .ref (ad 5), .ref (ad 6), .int (zI T_nodes), .int (zI T_count)])), (ad 2, .inl (cI, 200, .inl (zA T_kinds))), (ad 3, .inl (cL, 200, .inr (.inl (zB T_args)))), (ad 4, .inl (cI, 200, .inl (zA T_firsts))), (ad 5, .inl (cI, 200, .inl (zA T_lacks))), (ao, .inl (cL, 1, .inr (.inl (zB o))))] 1 6 := by
  refine CTW_of_J (cc := b_Law_node) (maxL := 6) (ret := (some .int)) (hh := [(0, 11, 14, 13), (0, 11, 18, 15)]) jFc_k (by decide) rfl (Nat.le_of_ble_eq_true rfl) ?_
  intro K hKl hKD X E htb
  subst hKl; subst hKD
  refine J_aload X d_Law_node_0 3 rfl ?_
  refine J_iconst X d_Law_node_2 ?_
  refine J_aload_n X d_Law_node_3 rfl 0 rfl ?_
  refine J_iload_n X d_Law_node_4 rfl 1 rfl ?_
  refine J_lload_n X d_Law_node_5 rfl 2 rfl ?_
  have hck : ckOk y_Law_node.cls (exN 1) 6 (jA K) (jS K) 14 (jC K).exceptionTable.toList := ckT_ok _ (by rw [htb]; exact ⟨by decide, by decide, "java/lang/IllegalArgumentException", X.1.2.2.2.2 _ (jl_x (by decide +kernel)), Or.inl ⟨X.2.2.2.2.2.1, rfl⟩⟩)
  refine J_catch X (ct_Cek_node (ad := ad) hfl h) jFe_k (fun _ _ _ h => h.1) (jlT (by decide +kernel)) rfl rfl rfl pd_Cek_node (by decide) [0, 1, 2, 3, 4, 5] rfl (by decide) 0 0 rfl rfl rfl rfl (Nat.le_of_ble_eq_true rfl) d_Law_node_6 (by decide) hck (fun x => ?_)
  refine J_astore X d_Law_node_14 (by decide) rfl ?_
  refine J_iconst X d_Law_node_16 ?_
  exact J_ret E ⟨_, rfl, rfl⟩ d_Law_node_17 (by decide) (by decide) rfl
set_option maxHeartbeats 4000000 in
set_option maxRecDepth 100000 in
theorem cx2_node {l : Launch} {D : va_G} {cI cL cB : ClassId} {ad : Nat → Nat} {adK adV : Nat → Nat} {ro : Nat} {ao : Nat} {o : Int → Int} {C_answer : Int} {T_nodes : Int} {T_count : Int} {T_kinds : Int → Int} {T_args : Int → Int} {T_firsts : Int → Int} {T_lacks : Int → Int} {p1 : Int} {p2 : Int} (hfl : l.flags = pinnedFlags ++ [noTraceFlag]) (h : t_Cek_node T_nodes T_count p1 p2 = some 2) : CT (jFc adK adV ro) false l D [(cI, .int), (cL, .long), (cB, .byte)] y_Law_node wl_node ({ frames := 7, cells := 1, slots := 6, locals := 133 } : Room) [.ref (ad 0), .int (zI p1), .long (zL p2), .ref ao] [(ad 0, .inr (0, [.ref (ad 1), .ref (ad 8), .int (zI C_answer)])), (ad 1, .inr (1, [.ref (ad 2), .ref (ad 3), .ref (ad 4), .ref (ad 5), .ref (ad 6), .int (zI T_nodes), .int (zI T_count)])), (ad 2, .inl (cI, 200, .inl (zA T_kinds))), (ad 3, .inl (cL, 200, .inr (.inl (zB T_args)))), (ad 4, .inl (cI, 200, .inl (zA T_firsts))), (ad 5, .inl (cI, 200, .inl (zA T_lacks))), (ao, .inl (cL, 1, .inr (.inl (zB o))))] (some (.int (zI 2))) [(ad 0, .inr (0, [.ref (ad 1), .ref (ad 8), .int (zI C_answer)])), (ad 1, .inr (1, [.ref (ad 2), .ref (ad 3), .ref (ad 4), .ref (ad 5), .ref (ad 6), .int (zI T_nodes), .int (zI T_count)])), (ad 2, .inl (cI, 200, .inl (zA T_kinds))), (ad 3, .inl (cL, 200, .inr (.inl (zB T_args)))), (ad 4, .inl (cI, 200, .inl (zA T_firsts))), (ad 5, .inl (cI, 200, .inl (zA T_lacks))), (ao, .inl (cL, 1, .inr (.inl (zB o))))] 1 6 := by
  refine CTW_of_J (cc := b_Law_node) (maxL := 6) (ret := (some .int)) (hh := [(0, 11, 14, 13), (0, 11, 18, 15)]) jFc_k (by decide) rfl (Nat.le_of_ble_eq_true rfl) ?_
  intro K hKl hKD X E htb
  subst hKl; subst hKD
  refine J_aload X d_Law_node_0 3 rfl ?_
  refine J_iconst X d_Law_node_2 ?_
  refine J_aload_n X d_Law_node_3 rfl 0 rfl ?_
  refine J_iload_n X d_Law_node_4 rfl 1 rfl ?_
  refine J_lload_n X d_Law_node_5 rfl 2 rfl ?_
  have hck : ckOk y_Law_node.cls (exN 2) 6 (jA K) (jS K) 18 (jC K).exceptionTable.toList := ckT_ok _ (by rw [htb]; exact ⟨by decide, by decide, "java/lang/IllegalArgumentException", X.1.2.2.2.2 _ (jl_x (by decide +kernel)), Or.inr ⟨X.2.2.2.2.2.2.2.2, ⟨by decide, by decide, "java/lang/IllegalStateException", X.1.2.2.2.2 _ (jl_x (by decide +kernel)), Or.inl ⟨X.2.2.2.2.2.2.1, rfl⟩⟩⟩⟩)
  refine J_catch X (ct_Cek_node (ad := ad) hfl h) jFe_k (fun _ _ _ h => h.1) (jlT (by decide +kernel)) rfl rfl rfl pd_Cek_node (by decide) [0, 1, 2, 3, 4, 5] rfl (by decide) 0 0 rfl rfl rfl rfl (Nat.le_of_ble_eq_true rfl) d_Law_node_6 (by decide) hck (fun x => ?_)
  refine J_astore X d_Law_node_18 (by decide) rfl ?_
  refine J_iconst X d_Law_node_20 ?_
  exact J_ret E ⟨_, rfl, rfl⟩ d_Law_node_21 (by decide) (by decide) rfl
abbrev wl_bytes : List Cond := .codeWith y_Law_bytes b_Law_bytes 6 (some .int) [(0, 11, 14, 13), (0, 11, 18, 15)] :: (wo_Law ++ (wX ++ wA))
theorem d_Law_bytes_0 : decode b_Law_bytes 0 = .ok (.aload 4, 2) := by decide +kernel
theorem d_Law_bytes_2 : decode b_Law_bytes 2 = .ok (.iconst 0, 1) := by decide +kernel
theorem d_Law_bytes_3 : decode b_Law_bytes 3 = .ok (.aload_n 0, 1) := by decide +kernel
theorem d_Law_bytes_4 : decode b_Law_bytes 4 = .ok (.lload_n 1, 1) := by decide +kernel
theorem d_Law_bytes_5 : decode b_Law_bytes 5 = .ok (.iload_n 3, 1) := by decide +kernel
theorem d_Law_bytes_6 : decode b_Law_bytes 6 = .ok (.invokevirtual 17, 3) := by decide +kernel
theorem d_Law_bytes_9 : decode b_Law_bytes 9 = .ok (.i2l, 1) := by decide +kernel
theorem d_Law_bytes_10 : decode b_Law_bytes 10 = .ok (.lastore, 1) := by decide +kernel
theorem d_Law_bytes_11 : decode b_Law_bytes 11 = .ok (.goto 11, 3) := by decide +kernel
theorem d_Law_bytes_14 : decode b_Law_bytes 14 = .ok (.astore 5, 2) := by decide +kernel
theorem d_Law_bytes_16 : decode b_Law_bytes 16 = .ok (.iconst 1, 1) := by decide +kernel
theorem d_Law_bytes_17 : decode b_Law_bytes 17 = .ok (.ireturn, 1) := by decide +kernel
theorem d_Law_bytes_18 : decode b_Law_bytes 18 = .ok (.astore 5, 2) := by decide +kernel
theorem d_Law_bytes_20 : decode b_Law_bytes 20 = .ok (.iconst 2, 1) := by decide +kernel
theorem d_Law_bytes_21 : decode b_Law_bytes 21 = .ok (.ireturn, 1) := by decide +kernel
theorem d_Law_bytes_22 : decode b_Law_bytes 22 = .ok (.iconst 0, 1) := by decide +kernel
theorem d_Law_bytes_23 : decode b_Law_bytes 23 = .ok (.ireturn, 1) := by decide +kernel
set_option maxHeartbeats 4000000 in
set_option maxRecDepth 100000 in
theorem cl_bytes {l : Launch} {D : va_G} {cI cL cB : ClassId} {ad : Nat → Nat} {adK adV : Nat → Nat} {ro : Nat} {ao : Nat} {o : Int → Int} {N : Nat} {C_answer : Int} {T_nodes : Int} {T_count : Int} {T_kinds : Int → Int} {T_args : Int → Int} {T_firsts : Int → Int} {T_lacks : Int → Int} {TB_top : Int} {TB_row : Int → Int} {p1 : Int} {p3 : Int} {out : Int × Int × Int × (Int → Int) × (Int → Int) × (Int → Int) × (Int → Int) × (Int → Int)} (h : f_Cek_bytes N T_nodes T_count T_kinds T_args T_firsts T_lacks TB_row p1 p3 = some out) (g : rI (out.1) = true) : CT (jFc adK adV ro) false l D [(cI, .int), (cL, .long), (cB, .byte)] y_Law_bytes wl_bytes ({ frames := 7, cells := 1, slots := 6, locals := 133 } : Room) [.ref (ad 0), .long (zL p1), .int (zI p3), .ref ao] [(ad 0, .inr (0, [.ref (ad 1), .ref (ad 8), .int (zI C_answer)])), (ad 1, .inr (1, [.ref (ad 2), .ref (ad 3), .ref (ad 4), .ref (ad 5), .ref (ad 6), .int (zI T_nodes), .int (zI T_count)])), (ad 2, .inl (cI, 200, .inl (zA T_kinds))), (ad 3, .inl (cL, 200, .inr (.inl (zB T_args)))), (ad 4, .inl (cI, 200, .inl (zA T_firsts))), (ad 5, .inl (cI, 200, .inl (zA T_lacks))), (ad 6, .inr (2, [.ref (ad 7), .int (zI TB_top)])), (ad 7, .inl (cB, 12800, .inl (zA TB_row))), (ao, .inl (cL, 1, .inr (.inl (zB o))))] (some (.int (zI 0))) [(ad 0, .inr (0, [.ref (ad 1), .ref (ad 8), .int (zI C_answer)])), (ad 1, .inr (1, [.ref (ad 2), .ref (ad 3), .ref (ad 4), .ref (ad 5), .ref (ad 6), .int (zI (out.2.1)), .int (zI (out.2.2.1))])), (ad 2, .inl (cI, 200, .inl (zA (out.2.2.2.1)))), (ad 3, .inl (cL, 200, .inr (.inl (zB (out.2.2.2.2.1))))), (ad 4, .inl (cI, 200, .inl (zA (out.2.2.2.2.2.1)))), (ad 5, .inl (cI, 200, .inl (zA (out.2.2.2.2.2.2.1)))), (ad 6, .inr (2, [.ref (ad 7), .int (zI TB_top)])), (ad 7, .inl (cB, 12800, .inl (zA (out.2.2.2.2.2.2.2)))), (ao, .inl (cL, 1, .inr (.inl (zB (upZ o 0 (out.1))))))] 1 6 := by
  refine CTW_of_J (cc := b_Law_bytes) (maxL := 6) (ret := (some .int)) (hh := [(0, 11, 14, 13), (0, 11, 18, 15)]) jFc_k (by decide) rfl (Nat.le_of_ble_eq_true rfl) ?_
  intro K hKl hKD X E htb
  subst hKl; subst hKD
  refine J_aload X d_Law_bytes_0 3 rfl ?_
  refine J_iconst X d_Law_bytes_2 ?_
  refine J_aload_n X d_Law_bytes_3 rfl 0 rfl ?_
  refine J_lload_n X d_Law_bytes_4 rfl 1 rfl ?_
  refine J_iload_n X d_Law_bytes_5 rfl 2 rfl ?_
  refine J_afterI0 (ws' := [(ad 0, .inr (0, [.ref (ad 1), .ref (ad 8), .int (zI C_answer)])), (ad 1, .inr (1, [.ref (ad 2), .ref (ad 3), .ref (ad 4), .ref (ad 5), .ref (ad 6), .int (zI (out.2.1)), .int (zI (out.2.2.1))])), (ad 2, .inl (cI, 200, .inl (zA (out.2.2.2.1)))), (ad 3, .inl (cL, 200, .inr (.inl (zB (out.2.2.2.2.1))))), (ad 4, .inl (cI, 200, .inl (zA (out.2.2.2.2.2.1)))), (ad 5, .inl (cI, 200, .inl (zA (out.2.2.2.2.2.2.1)))), (ad 6, .inr (2, [.ref (ad 7), .int (zI TB_top)])), (ad 7, .inl (cB, 12800, .inl (zA (out.2.2.2.2.2.2.2)))), (ao, .inl (cL, 1, .inr (.inl (zB o))))]) X (jrunV X (c_Cek_bytes (ad := ad) h) jF0_k (fun _ _ _ _ => trivial) (jlV (by decide +kernel)) rfl rfl rfl pd_Cek_bytes (by decide) [0, 1, 2, 3, 4, 5, 6, 7] rfl (by decide) 0 0 rfl rfl rfl rfl (Nat.le_of_ble_eq_true rfl) d_Law_bytes_6 (by decide)) [0, 1, 2, 3, 4, 5, 6, 7] [8] [1, 2, 3, 4, 5, 6, 7, 8, 0] rfl rfl (by decide) (by decide) rfl (by decide) ?_
  refine J_i2l X g d_Law_bytes_9 ?_
  refine J_last X 8 1 rfl rfl (by decide) d_Law_bytes_10 rfl ?_
  refine J_goto (tgt := 22) X d_Law_bytes_11 (by decide) ?_
  refine J_iconst X d_Law_bytes_22 ?_
  exact J_ret E ⟨_, rfl, rfl⟩ d_Law_bytes_23 (by decide) (by decide) rfl
set_option maxHeartbeats 4000000 in
set_option maxRecDepth 100000 in
theorem cx1_bytes {l : Launch} {D : va_G} {cI cL cB : ClassId} {ad : Nat → Nat} {adK adV : Nat → Nat} {ro : Nat} {ao : Nat} {o : Int → Int} {C_answer : Int} {T_nodes : Int} {T_count : Int} {T_kinds : Int → Int} {T_args : Int → Int} {T_firsts : Int → Int} {T_lacks : Int → Int} {TB_top : Int} {TB_row : Int → Int} {p1 : Int} {p3 : Int} (hfl : l.flags = pinnedFlags ++ [noTraceFlag]) (h : t_Cek_bytes T_nodes p3 = some 1) : CT (jFc adK adV ro) false l D [(cI, .int), (cL, .long), (cB, .byte)] y_Law_bytes wl_bytes ({ frames := 7, cells := 1, slots := 6, locals := 133 } : Room) [.ref (ad 0), .long (zL p1), .int (zI p3), .ref ao] [(ad 0, .inr (0, [.ref (ad 1), .ref (ad 8), .int (zI C_answer)])), (ad 1, .inr (1, [.ref (ad 2), .ref (ad 3), .ref (ad 4), .ref (ad 5), .ref (ad 6), .int (zI T_nodes), .int (zI T_count)])), (ad 2, .inl (cI, 200, .inl (zA T_kinds))), (ad 3, .inl (cL, 200, .inr (.inl (zB T_args)))), (ad 4, .inl (cI, 200, .inl (zA T_firsts))), (ad 5, .inl (cI, 200, .inl (zA T_lacks))), (ad 6, .inr (2, [.ref (ad 7), .int (zI TB_top)])), (ad 7, .inl (cB, 12800, .inl (zA TB_row))), (ao, .inl (cL, 1, .inr (.inl (zB o))))] (some (.int (zI 1))) [(ad 0, .inr (0, [.ref (ad 1), .ref (ad 8), .int (zI C_answer)])), (ad 1, .inr (1, [.ref (ad 2), .ref (ad 3), .ref (ad 4), .ref (ad 5), .ref (ad 6), .int (zI T_nodes), .int (zI T_count)])), (ad 2, .inl (cI, 200, .inl (zA T_kinds))), (ad 3, .inl (cL, 200, .inr (.inl (zB T_args)))), (ad 4, .inl (cI, 200, .inl (zA T_firsts))), (ad 5, .inl (cI, 200, .inl (zA T_lacks))), (ad 6, .inr (2, [.ref (ad 7), .int (zI TB_top)])), (ad 7, .inl (cB, 12800, .inl (zA TB_row))), (ao, .inl (cL, 1, .inr (.inl (zB o))))] 1 6 := by
  refine CTW_of_J (cc := b_Law_bytes) (maxL := 6) (ret := (some .int)) (hh := [(0, 11, 14, 13), (0, 11, 18, 15)]) jFc_k (by decide) rfl (Nat.le_of_ble_eq_true rfl) ?_
  intro K hKl hKD X E htb
  subst hKl; subst hKD
  refine J_aload X d_Law_bytes_0 3 rfl ?_
  refine J_iconst X d_Law_bytes_2 ?_
  refine J_aload_n X d_Law_bytes_3 rfl 0 rfl ?_
  refine J_lload_n X d_Law_bytes_4 rfl 1 rfl ?_
  refine J_iload_n X d_Law_bytes_5 rfl 2 rfl ?_
  have hck : ckOk y_Law_bytes.cls (exN 1) 6 (jA K) (jS K) 14 (jC K).exceptionTable.toList := ckT_ok _ (by rw [htb]; exact ⟨by decide, by decide, "java/lang/IllegalArgumentException", X.1.2.2.2.2 _ (jl_x (by decide +kernel)), Or.inl ⟨X.2.2.2.2.2.1, rfl⟩⟩)
  refine J_catch X (ct_Cek_bytes (ad := ad) hfl h) jFe_k (fun _ _ _ h => h.1) (jlT (by decide +kernel)) rfl rfl rfl pd_Cek_bytes (by decide) [0, 1, 2, 3, 4, 5, 6, 7] rfl (by decide) 0 0 rfl rfl rfl rfl (Nat.le_of_ble_eq_true rfl) d_Law_bytes_6 (by decide) hck (fun x => ?_)
  refine J_astore X d_Law_bytes_14 (by decide) rfl ?_
  refine J_iconst X d_Law_bytes_16 ?_
  exact J_ret E ⟨_, rfl, rfl⟩ d_Law_bytes_17 (by decide) (by decide) rfl
set_option maxHeartbeats 4000000 in
set_option maxRecDepth 100000 in
theorem cx2_bytes {l : Launch} {D : va_G} {cI cL cB : ClassId} {ad : Nat → Nat} {adK adV : Nat → Nat} {ro : Nat} {ao : Nat} {o : Int → Int} {C_answer : Int} {T_nodes : Int} {T_count : Int} {T_kinds : Int → Int} {T_args : Int → Int} {T_firsts : Int → Int} {T_lacks : Int → Int} {TB_top : Int} {TB_row : Int → Int} {p1 : Int} {p3 : Int} (hfl : l.flags = pinnedFlags ++ [noTraceFlag]) (h : t_Cek_bytes T_nodes p3 = some 2) : CT (jFc adK adV ro) false l D [(cI, .int), (cL, .long), (cB, .byte)] y_Law_bytes wl_bytes ({ frames := 7, cells := 1, slots := 6, locals := 133 } : Room) [.ref (ad 0), .long (zL p1), .int (zI p3), .ref ao] [(ad 0, .inr (0, [.ref (ad 1), .ref (ad 8), .int (zI C_answer)])), (ad 1, .inr (1, [.ref (ad 2), .ref (ad 3), .ref (ad 4), .ref (ad 5), .ref (ad 6), .int (zI T_nodes), .int (zI T_count)])), (ad 2, .inl (cI, 200, .inl (zA T_kinds))), (ad 3, .inl (cL, 200, .inr (.inl (zB T_args)))), (ad 4, .inl (cI, 200, .inl (zA T_firsts))), (ad 5, .inl (cI, 200, .inl (zA T_lacks))), (ad 6, .inr (2, [.ref (ad 7), .int (zI TB_top)])), (ad 7, .inl (cB, 12800, .inl (zA TB_row))), (ao, .inl (cL, 1, .inr (.inl (zB o))))] (some (.int (zI 2))) [(ad 0, .inr (0, [.ref (ad 1), .ref (ad 8), .int (zI C_answer)])), (ad 1, .inr (1, [.ref (ad 2), .ref (ad 3), .ref (ad 4), .ref (ad 5), .ref (ad 6), .int (zI T_nodes), .int (zI T_count)])), (ad 2, .inl (cI, 200, .inl (zA T_kinds))), (ad 3, .inl (cL, 200, .inr (.inl (zB T_args)))), (ad 4, .inl (cI, 200, .inl (zA T_firsts))), (ad 5, .inl (cI, 200, .inl (zA T_lacks))), (ad 6, .inr (2, [.ref (ad 7), .int (zI TB_top)])), (ad 7, .inl (cB, 12800, .inl (zA TB_row))), (ao, .inl (cL, 1, .inr (.inl (zB o))))] 1 6 := by
  refine CTW_of_J (cc := b_Law_bytes) (maxL := 6) (ret := (some .int)) (hh := [(0, 11, 14, 13), (0, 11, 18, 15)]) jFc_k (by decide) rfl (Nat.le_of_ble_eq_true rfl) ?_
  intro K hKl hKD X E htb
  subst hKl; subst hKD
  refine J_aload X d_Law_bytes_0 3 rfl ?_
  refine J_iconst X d_Law_bytes_2 ?_
  refine J_aload_n X d_Law_bytes_3 rfl 0 rfl ?_
  refine J_lload_n X d_Law_bytes_4 rfl 1 rfl ?_
  refine J_iload_n X d_Law_bytes_5 rfl 2 rfl ?_
  have hck : ckOk y_Law_bytes.cls (exN 2) 6 (jA K) (jS K) 18 (jC K).exceptionTable.toList := ckT_ok _ (by rw [htb]; exact ⟨by decide, by decide, "java/lang/IllegalArgumentException", X.1.2.2.2.2 _ (jl_x (by decide +kernel)), Or.inr ⟨X.2.2.2.2.2.2.2.2, ⟨by decide, by decide, "java/lang/IllegalStateException", X.1.2.2.2.2 _ (jl_x (by decide +kernel)), Or.inl ⟨X.2.2.2.2.2.2.1, rfl⟩⟩⟩⟩)
  refine J_catch X (ct_Cek_bytes (ad := ad) hfl h) jFe_k (fun _ _ _ h => h.1) (jlT (by decide +kernel)) rfl rfl rfl pd_Cek_bytes (by decide) [0, 1, 2, 3, 4, 5, 6, 7] rfl (by decide) 0 0 rfl rfl rfl rfl (Nat.le_of_ble_eq_true rfl) d_Law_bytes_6 (by decide) hck (fun x => ?_)
  refine J_astore X d_Law_bytes_18 (by decide) rfl ?_
  refine J_iconst X d_Law_bytes_20 ?_
  exact J_ret E ⟨_, rfl, rfl⟩ d_Law_bytes_21 (by decide) (by decide) rfl
abbrev wl_run : List Cond := .codeWith y_Law_run b_Law_run 5 (some .int) [(0, 10, 13, 15), (0, 10, 17, 13)] :: (wo_Law ++ (wX ++ wA))
theorem d_Law_run_0 : decode b_Law_run 0 = .ok (.aload_n 3, 1) := by decide +kernel
theorem d_Law_run_1 : decode b_Law_run 1 = .ok (.iconst 0, 1) := by decide +kernel
theorem d_Law_run_2 : decode b_Law_run 2 = .ok (.aload_n 0, 1) := by decide +kernel
theorem d_Law_run_3 : decode b_Law_run 3 = .ok (.iload_n 1, 1) := by decide +kernel
theorem d_Law_run_4 : decode b_Law_run 4 = .ok (.iload_n 2, 1) := by decide +kernel
theorem d_Law_run_5 : decode b_Law_run 5 = .ok (.invokevirtual 21, 3) := by decide +kernel
theorem d_Law_run_8 : decode b_Law_run 8 = .ok (.i2l, 1) := by decide +kernel
theorem d_Law_run_9 : decode b_Law_run 9 = .ok (.lastore, 1) := by decide +kernel
theorem d_Law_run_10 : decode b_Law_run 10 = .ok (.goto 11, 3) := by decide +kernel
theorem d_Law_run_13 : decode b_Law_run 13 = .ok (.astore 4, 2) := by decide +kernel
theorem d_Law_run_15 : decode b_Law_run 15 = .ok (.iconst 1, 1) := by decide +kernel
theorem d_Law_run_16 : decode b_Law_run 16 = .ok (.ireturn, 1) := by decide +kernel
theorem d_Law_run_17 : decode b_Law_run 17 = .ok (.astore 4, 2) := by decide +kernel
theorem d_Law_run_19 : decode b_Law_run 19 = .ok (.iconst 2, 1) := by decide +kernel
theorem d_Law_run_20 : decode b_Law_run 20 = .ok (.ireturn, 1) := by decide +kernel
theorem d_Law_run_21 : decode b_Law_run 21 = .ok (.iconst 0, 1) := by decide +kernel
theorem d_Law_run_22 : decode b_Law_run 22 = .ok (.ireturn, 1) := by decide +kernel
set_option maxHeartbeats 4000000 in
set_option maxRecDepth 100000 in
theorem cl_run {l : Launch} {D : va_G} {cI cL cB : ClassId} {ad : Nat → Nat} {adK adV : Nat → Nat} {ro : Nat} {ao : Nat} {o : Int → Int} {N : Nat} {C_answer : Int} {T_nodes : Int} {T_count : Int} {T_kinds : Int → Int} {T_args : Int → Int} {T_firsts : Int → Int} {T_lacks : Int → Int} {TB_top : Int} {TB_row : Int → Int} {E_node : Int} {E_scope : Int} {E_value : Int} {V_top : Int} {V_kinds : Int → Int} {V_numbers : Int → Int} {V_parts : Int → Int} {V_links : Int → Int} {VB_top : Int} {VB_row : Int → Int} {D_top : Int} {D_forms : Int → Int} {D_counts : Int → Int} {D_numbers : Int → Int} {D_nodes : Int → Int} {D_depths : Int → Int} {D_weights : Int → Int} {M_steps : Int} {M_memory : Int} {M_mostSteps : Int} {M_mostMemory : Int} {M_fault : Int} {W_depth : Int} {W_most : Int} {W_nodes : Int → Int} {W_scopes : Int → Int} {W_functions : Int → Int} {S_top : Int} {S_bound : Int → Int} {S_outer : Int → Int} {B_ready : Int} {B_given : Int → Int} {p1 : Int} {p2 : Int} {out : Int × Int × Int × Int × Int × Int × (Int → Int) × (Int → Int) × (Int → Int) × (Int → Int) × Int × (Int → Int) × Int × (Int → Int) × (Int → Int) × (Int → Int) × (Int → Int) × (Int → Int) × (Int → Int) × Int × Int × Int × Int × Int × Int × Int × (Int → Int) × (Int → Int) × (Int → Int) × Int × (Int → Int) × (Int → Int) × Int × (Int → Int)} (h : f_Cek_run N C_answer T_nodes T_count T_kinds T_args T_firsts T_lacks TB_row E_node E_scope E_value V_top V_kinds V_numbers V_parts V_links VB_top VB_row D_top D_forms D_counts D_numbers D_nodes D_depths D_weights M_steps M_memory M_mostSteps M_mostMemory M_fault W_depth W_most W_nodes W_scopes W_functions S_top S_bound S_outer B_ready B_given p1 p2 = some out) (g : rI (out.1) = true) : CT (jFc adK adV ro) false l D [(cI, .int), (cL, .long), (cB, .byte)] y_Law_run wl_run ({ frames := 8, cells := 1, slots := 6, locals := 222 } : Room) [.ref (ad 0), .int (zI p1), .int (zI p2), .ref ao] [(ad 0, .inr (0, [.ref (ad 1), .ref (ad 8), .int (zI C_answer)])), (ad 1, .inr (1, [.ref (ad 2), .ref (ad 3), .ref (ad 4), .ref (ad 5), .ref (ad 6), .int (zI T_nodes), .int (zI T_count)])), (ad 2, .inl (cI, 200, .inl (zA T_kinds))), (ad 3, .inl (cL, 200, .inr (.inl (zB T_args)))), (ad 4, .inl (cI, 200, .inl (zA T_firsts))), (ad 5, .inl (cI, 200, .inl (zA T_lacks))), (ad 6, .inr (2, [.ref (ad 7), .int (zI TB_top)])), (ad 7, .inl (cB, 12800, .inl (zA TB_row))), (ad 8, .inr (3, [.ref (ad 9), .ref (ad 23), .ref (ad 24), .ref (ad 28), .ref (ad 31), .ref (ad 1), .int (zI E_node), .int (zI E_scope), .int (zI E_value)])), (ad 9, .inr (4, [.ref (ad 14), .ref (ad 16), .ref (ad 10), .ref (ad 11), .ref (ad 12), .ref (ad 13), .int (zI V_top)])), (ad 10, .inl (cI, 3201, .inl (zA V_kinds))), (ad 11, .inl (cL, 3201, .inr (.inl (zB V_numbers)))), (ad 12, .inl (cI, 3201, .inl (zA V_parts))), (ad 13, .inl (cI, 3201, .inl (zA V_links))), (ad 14, .inr (2, [.ref (ad 15), .int (zI VB_top)])), (ad 15, .inl (cB, 36864, .inl (zA VB_row))), (ad 16, .inr (5, [.ref (ad 17), .ref (ad 18), .ref (ad 19), .ref (ad 20), .ref (ad 21), .ref (ad 22), .int (zI D_top)])), (ad 17, .inl (cI, 3201, .inl (zA D_forms))), (ad 18, .inl (cI, 3201, .inl (zA D_counts))), (ad 19, .inl (cL, 3201, .inr (.inl (zB D_numbers)))), (ad 20, .inl (cI, 3201, .inl (zA D_nodes))), (ad 21, .inl (cI, 3201, .inl (zA D_depths))), (ad 22, .inl (cI, 3201, .inl (zA D_weights))), (ad 23, .inr (6, [.int (zI M_steps), .int (zI M_memory), .int (zI M_mostSteps), .int (zI M_mostMemory), .int (zI M_fault)])), (ad 24, .inr (7, [.ref (ad 25), .ref (ad 26), .ref (ad 27), .int (zI W_depth), .int (zI W_most)])), (ad 25, .inl (cI, 400, .inl (zA W_nodes))), (ad 26, .inl (cI, 400, .inl (zA W_scopes))), (ad 27, .inl (cI, 400, .inl (zA W_functions))), (ad 28, .inr (8, [.ref (ad 29), .ref (ad 30), .int (zI S_top)])), (ad 29, .inl (cI, 3000, .inl (zA S_bound))), (ad 30, .inl (cI, 3000, .inl (zA S_outer))), (ad 31, .inr (9, [.ref (ad 9), .ref (ad 23), .ref (ad 32), .int (zI B_ready)])), (ad 32, .inl (cI, 3, .inl (zA B_given))), (ao, .inl (cL, 1, .inr (.inl (zB o))))] (some (.int (zI 0))) [(ad 0, .inr (0, [.ref (ad 1), .ref (ad 8), .int (zI (out.2.1))])), (ad 1, .inr (1, [.ref (ad 2), .ref (ad 3), .ref (ad 4), .ref (ad 5), .ref (ad 6), .int (zI T_nodes), .int (zI T_count)])), (ad 2, .inl (cI, 200, .inl (zA T_kinds))), (ad 3, .inl (cL, 200, .inr (.inl (zB T_args)))), (ad 4, .inl (cI, 200, .inl (zA T_firsts))), (ad 5, .inl (cI, 200, .inl (zA T_lacks))), (ad 6, .inr (2, [.ref (ad 7), .int (zI TB_top)])), (ad 7, .inl (cB, 12800, .inl (zA TB_row))), (ad 8, .inr (3, [.ref (ad 9), .ref (ad 23), .ref (ad 24), .ref (ad 28), .ref (ad 31), .ref (ad 1), .int (zI (out.2.2.1)), .int (zI (out.2.2.2.1)), .int (zI (out.2.2.2.2.1))])), (ad 9, .inr (4, [.ref (ad 14), .ref (ad 16), .ref (ad 10), .ref (ad 11), .ref (ad 12), .ref (ad 13), .int (zI (out.2.2.2.2.2.1))])), (ad 10, .inl (cI, 3201, .inl (zA (out.2.2.2.2.2.2.1)))), (ad 11, .inl (cL, 3201, .inr (.inl (zB (out.2.2.2.2.2.2.2.1))))), (ad 12, .inl (cI, 3201, .inl (zA (out.2.2.2.2.2.2.2.2.1)))), (ad 13, .inl (cI, 3201, .inl (zA (out.2.2.2.2.2.2.2.2.2.1)))), (ad 14, .inr (2, [.ref (ad 15), .int (zI (out.2.2.2.2.2.2.2.2.2.2.1))])), (ad 15, .inl (cB, 36864, .inl (zA (out.2.2.2.2.2.2.2.2.2.2.2.1)))), (ad 16, .inr (5, [.ref (ad 17), .ref (ad 18), .ref (ad 19), .ref (ad 20), .ref (ad 21), .ref (ad 22), .int (zI (out.2.2.2.2.2.2.2.2.2.2.2.2.1))])), (ad 17, .inl (cI, 3201, .inl (zA (out.2.2.2.2.2.2.2.2.2.2.2.2.2.1)))), (ad 18, .inl (cI, 3201, .inl (zA (out.2.2.2.2.2.2.2.2.2.2.2.2.2.2.1)))), (ad 19, .inl (cL, 3201, .inr (.inl (zB (out.2.2.2.2.2.2.2.2.2.2.2.2.2.2.2.1))))), (ad 20, .inl (cI, 3201, .inl (zA (out.2.2.2.2.2.2.2.2.2.2.2.2.2.2.2.2.1)))), (ad 21, .inl (cI, 3201, .inl (zA (out.2.2.2.2.2.2.2.2.2.2.2.2.2.2.2.2.2.1)))), (ad 22, .inl (cI, 3201, .inl (zA (out.2.2.2.2.2.2.2.2.2.2.2.2.2.2.2.2.2.2.1)))), (ad 23, .inr (6, [.int (zI (out.2.2.2.2.2.2.2.2.2.2.2.2.2.2.2.2.2.2.2.1)), .int (zI (out.2.2.2.2.2.2.2.2.2.2.2.2.2.2.2.2.2.2.2.2.1)), .int (zI (out.2.2.2.2.2.2.2.2.2.2.2.2.2.2.2.2.2.2.2.2.2.1)), .int (zI (out.2.2.2.2.2.2.2.2.2.2.2.2.2.2.2.2.2.2.2.2.2.2.1)), .int (zI (out.2.2.2.2.2.2.2.2.2.2.2.2.2.2.2.2.2.2.2.2.2.2.2.1))])), (ad 24, .inr (7, [.ref (ad 25), .ref (ad 26), .ref (ad 27), .int (zI (out.2.2.2.2.2.2.2.2.2.2.2.2.2.2.2.2.2.2.2.2.2.2.2.2.1)), .int (zI (out.2.2.2.2.2.2.2.2.2.2.2.2.2.2.2.2.2.2.2.2.2.2.2.2.2.1))])), (ad 25, .inl (cI, 400, .inl (zA (out.2.2.2.2.2.2.2.2.2.2.2.2.2.2.2.2.2.2.2.2.2.2.2.2.2.2.1)))), (ad 26, .inl (cI, 400, .inl (zA (out.2.2.2.2.2.2.2.2.2.2.2.2.2.2.2.2.2.2.2.2.2.2.2.2.2.2.2.1)))), (ad 27, .inl (cI, 400, .inl (zA (out.2.2.2.2.2.2.2.2.2.2.2.2.2.2.2.2.2.2.2.2.2.2.2.2.2.2.2.2.1)))), (ad 28, .inr (8, [.ref (ad 29), .ref (ad 30), .int (zI (out.2.2.2.2.2.2.2.2.2.2.2.2.2.2.2.2.2.2.2.2.2.2.2.2.2.2.2.2.2.1))])), (ad 29, .inl (cI, 3000, .inl (zA (out.2.2.2.2.2.2.2.2.2.2.2.2.2.2.2.2.2.2.2.2.2.2.2.2.2.2.2.2.2.2.1)))), (ad 30, .inl (cI, 3000, .inl (zA (out.2.2.2.2.2.2.2.2.2.2.2.2.2.2.2.2.2.2.2.2.2.2.2.2.2.2.2.2.2.2.2.1)))), (ad 31, .inr (9, [.ref (ad 9), .ref (ad 23), .ref (ad 32), .int (zI (out.2.2.2.2.2.2.2.2.2.2.2.2.2.2.2.2.2.2.2.2.2.2.2.2.2.2.2.2.2.2.2.2.1))])), (ad 32, .inl (cI, 3, .inl (zA (out.2.2.2.2.2.2.2.2.2.2.2.2.2.2.2.2.2.2.2.2.2.2.2.2.2.2.2.2.2.2.2.2.2)))), (ao, .inl (cL, 1, .inr (.inl (zB (upZ o 0 (out.1))))))] 1 6 := by
  refine CTW_of_J (cc := b_Law_run) (maxL := 5) (ret := (some .int)) (hh := [(0, 10, 13, 15), (0, 10, 17, 13)]) jFc_k (by decide) rfl (Nat.le_of_ble_eq_true rfl) ?_
  intro K hKl hKD X E htb
  subst hKl; subst hKD
  refine J_aload_n X d_Law_run_0 rfl 3 rfl ?_
  refine J_iconst X d_Law_run_1 ?_
  refine J_aload_n X d_Law_run_2 rfl 0 rfl ?_
  refine J_iload_n X d_Law_run_3 rfl 1 rfl ?_
  refine J_iload_n X d_Law_run_4 rfl 2 rfl ?_
  refine J_afterI0 (ws' := [(ad 0, .inr (0, [.ref (ad 1), .ref (ad 8), .int (zI (out.2.1))])), (ad 1, .inr (1, [.ref (ad 2), .ref (ad 3), .ref (ad 4), .ref (ad 5), .ref (ad 6), .int (zI T_nodes), .int (zI T_count)])), (ad 2, .inl (cI, 200, .inl (zA T_kinds))), (ad 3, .inl (cL, 200, .inr (.inl (zB T_args)))), (ad 4, .inl (cI, 200, .inl (zA T_firsts))), (ad 5, .inl (cI, 200, .inl (zA T_lacks))), (ad 6, .inr (2, [.ref (ad 7), .int (zI TB_top)])), (ad 7, .inl (cB, 12800, .inl (zA TB_row))), (ad 8, .inr (3, [.ref (ad 9), .ref (ad 23), .ref (ad 24), .ref (ad 28), .ref (ad 31), .ref (ad 1), .int (zI (out.2.2.1)), .int (zI (out.2.2.2.1)), .int (zI (out.2.2.2.2.1))])), (ad 9, .inr (4, [.ref (ad 14), .ref (ad 16), .ref (ad 10), .ref (ad 11), .ref (ad 12), .ref (ad 13), .int (zI (out.2.2.2.2.2.1))])), (ad 10, .inl (cI, 3201, .inl (zA (out.2.2.2.2.2.2.1)))), (ad 11, .inl (cL, 3201, .inr (.inl (zB (out.2.2.2.2.2.2.2.1))))), (ad 12, .inl (cI, 3201, .inl (zA (out.2.2.2.2.2.2.2.2.1)))), (ad 13, .inl (cI, 3201, .inl (zA (out.2.2.2.2.2.2.2.2.2.1)))), (ad 14, .inr (2, [.ref (ad 15), .int (zI (out.2.2.2.2.2.2.2.2.2.2.1))])), (ad 15, .inl (cB, 36864, .inl (zA (out.2.2.2.2.2.2.2.2.2.2.2.1)))), (ad 16, .inr (5, [.ref (ad 17), .ref (ad 18), .ref (ad 19), .ref (ad 20), .ref (ad 21), .ref (ad 22), .int (zI (out.2.2.2.2.2.2.2.2.2.2.2.2.1))])), (ad 17, .inl (cI, 3201, .inl (zA (out.2.2.2.2.2.2.2.2.2.2.2.2.2.1)))), (ad 18, .inl (cI, 3201, .inl (zA (out.2.2.2.2.2.2.2.2.2.2.2.2.2.2.1)))), (ad 19, .inl (cL, 3201, .inr (.inl (zB (out.2.2.2.2.2.2.2.2.2.2.2.2.2.2.2.1))))), (ad 20, .inl (cI, 3201, .inl (zA (out.2.2.2.2.2.2.2.2.2.2.2.2.2.2.2.2.1)))), (ad 21, .inl (cI, 3201, .inl (zA (out.2.2.2.2.2.2.2.2.2.2.2.2.2.2.2.2.2.1)))), (ad 22, .inl (cI, 3201, .inl (zA (out.2.2.2.2.2.2.2.2.2.2.2.2.2.2.2.2.2.2.1)))), (ad 23, .inr (6, [.int (zI (out.2.2.2.2.2.2.2.2.2.2.2.2.2.2.2.2.2.2.2.1)), .int (zI (out.2.2.2.2.2.2.2.2.2.2.2.2.2.2.2.2.2.2.2.2.1)), .int (zI (out.2.2.2.2.2.2.2.2.2.2.2.2.2.2.2.2.2.2.2.2.2.1)), .int (zI (out.2.2.2.2.2.2.2.2.2.2.2.2.2.2.2.2.2.2.2.2.2.2.1)), .int (zI (out.2.2.2.2.2.2.2.2.2.2.2.2.2.2.2.2.2.2.2.2.2.2.2.1))])), (ad 24, .inr (7, [.ref (ad 25), .ref (ad 26), .ref (ad 27), .int (zI (out.2.2.2.2.2.2.2.2.2.2.2.2.2.2.2.2.2.2.2.2.2.2.2.2.1)), .int (zI (out.2.2.2.2.2.2.2.2.2.2.2.2.2.2.2.2.2.2.2.2.2.2.2.2.2.1))])), (ad 25, .inl (cI, 400, .inl (zA (out.2.2.2.2.2.2.2.2.2.2.2.2.2.2.2.2.2.2.2.2.2.2.2.2.2.2.1)))), (ad 26, .inl (cI, 400, .inl (zA (out.2.2.2.2.2.2.2.2.2.2.2.2.2.2.2.2.2.2.2.2.2.2.2.2.2.2.2.1)))), (ad 27, .inl (cI, 400, .inl (zA (out.2.2.2.2.2.2.2.2.2.2.2.2.2.2.2.2.2.2.2.2.2.2.2.2.2.2.2.2.1)))), (ad 28, .inr (8, [.ref (ad 29), .ref (ad 30), .int (zI (out.2.2.2.2.2.2.2.2.2.2.2.2.2.2.2.2.2.2.2.2.2.2.2.2.2.2.2.2.2.1))])), (ad 29, .inl (cI, 3000, .inl (zA (out.2.2.2.2.2.2.2.2.2.2.2.2.2.2.2.2.2.2.2.2.2.2.2.2.2.2.2.2.2.2.1)))), (ad 30, .inl (cI, 3000, .inl (zA (out.2.2.2.2.2.2.2.2.2.2.2.2.2.2.2.2.2.2.2.2.2.2.2.2.2.2.2.2.2.2.2.1)))), (ad 31, .inr (9, [.ref (ad 9), .ref (ad 23), .ref (ad 32), .int (zI (out.2.2.2.2.2.2.2.2.2.2.2.2.2.2.2.2.2.2.2.2.2.2.2.2.2.2.2.2.2.2.2.2.1))])), (ad 32, .inl (cI, 3, .inl (zA (out.2.2.2.2.2.2.2.2.2.2.2.2.2.2.2.2.2.2.2.2.2.2.2.2.2.2.2.2.2.2.2.2.2)))), (ao, .inl (cL, 1, .inr (.inl (zB o))))]) X (jrunV X (c_Cek_run (ad := ad) h) jFs_k (fun _ _ _ h => h.1.1) (jlV (by decide +kernel)) rfl rfl rfl pd_Cek_run (by decide) [0, 1, 2, 3, 4, 5, 6, 7, 8, 9, 10, 11, 12, 13, 14, 15, 16, 17, 18, 19, 20, 21, 22, 23, 24, 25, 26, 27, 28, 29, 30, 31, 32] rfl (by decide) 0 0 rfl rfl rfl rfl (Nat.le_of_ble_eq_true rfl) d_Law_run_5 (by decide)) [0, 1, 2, 3, 4, 5, 6, 7, 8, 9, 10, 11, 12, 13, 14, 15, 16, 17, 18, 19, 20, 21, 22, 23, 24, 25, 26, 27, 28, 29, 30, 31, 32] [33] [1, 2, 3, 4, 5, 6, 7, 8, 9, 10, 11, 12, 13, 14, 15, 16, 17, 18, 19, 20, 21, 22, 23, 24, 25, 26, 27, 28, 29, 30, 31, 32, 33, 0] rfl rfl (by decide) (by decide) rfl (by decide) ?_
  refine J_i2l X g d_Law_run_8 ?_
  refine J_last X 33 1 rfl rfl (by decide) d_Law_run_9 rfl ?_
  refine J_goto (tgt := 21) X d_Law_run_10 (by decide) ?_
  refine J_iconst X d_Law_run_21 ?_
  exact J_ret E ⟨_, rfl, rfl⟩ d_Law_run_22 (by decide) (by decide) rfl
set_option maxHeartbeats 4000000 in
set_option maxRecDepth 100000 in
theorem cx1_run {l : Launch} {D : va_G} {cI cL cB : ClassId} {ad : Nat → Nat} {adK adV : Nat → Nat} {ro : Nat} {ao : Nat} {o : Int → Int} {C_answer : Int} {T_nodes : Int} {T_count : Int} {T_kinds : Int → Int} {T_args : Int → Int} {T_firsts : Int → Int} {T_lacks : Int → Int} {TB_top : Int} {TB_row : Int → Int} {E_node : Int} {E_scope : Int} {E_value : Int} {V_top : Int} {V_kinds : Int → Int} {V_numbers : Int → Int} {V_parts : Int → Int} {V_links : Int → Int} {VB_top : Int} {VB_row : Int → Int} {D_top : Int} {D_forms : Int → Int} {D_counts : Int → Int} {D_numbers : Int → Int} {D_nodes : Int → Int} {D_depths : Int → Int} {D_weights : Int → Int} {M_steps : Int} {M_memory : Int} {M_mostSteps : Int} {M_mostMemory : Int} {M_fault : Int} {W_depth : Int} {W_most : Int} {W_nodes : Int → Int} {W_scopes : Int → Int} {W_functions : Int → Int} {S_top : Int} {S_bound : Int → Int} {S_outer : Int → Int} {B_ready : Int} {B_given : Int → Int} {p1 : Int} {p2 : Int} (hfl : l.flags = pinnedFlags ++ [noTraceFlag]) (h : t_Cek_run T_nodes T_count T_lacks p1 p2 = some 1) : CT (jFc adK adV ro) false l D [(cI, .int), (cL, .long), (cB, .byte)] y_Law_run wl_run ({ frames := 8, cells := 1, slots := 6, locals := 222 } : Room) [.ref (ad 0), .int (zI p1), .int (zI p2), .ref ao] [(ad 0, .inr (0, [.ref (ad 1), .ref (ad 8), .int (zI C_answer)])), (ad 1, .inr (1, [.ref (ad 2), .ref (ad 3), .ref (ad 4), .ref (ad 5), .ref (ad 6), .int (zI T_nodes), .int (zI T_count)])), (ad 2, .inl (cI, 200, .inl (zA T_kinds))), (ad 3, .inl (cL, 200, .inr (.inl (zB T_args)))), (ad 4, .inl (cI, 200, .inl (zA T_firsts))), (ad 5, .inl (cI, 200, .inl (zA T_lacks))), (ad 6, .inr (2, [.ref (ad 7), .int (zI TB_top)])), (ad 7, .inl (cB, 12800, .inl (zA TB_row))), (ad 8, .inr (3, [.ref (ad 9), .ref (ad 23), .ref (ad 24), .ref (ad 28), .ref (ad 31), .ref (ad 1), .int (zI E_node), .int (zI E_scope), .int (zI E_value)])), (ad 9, .inr (4, [.ref (ad 14), .ref (ad 16), .ref (ad 10), .ref (ad 11), .ref (ad 12), .ref (ad 13), .int (zI V_top)])), (ad 10, .inl (cI, 3201, .inl (zA V_kinds))), (ad 11, .inl (cL, 3201, .inr (.inl (zB V_numbers)))), (ad 12, .inl (cI, 3201, .inl (zA V_parts))), (ad 13, .inl (cI, 3201, .inl (zA V_links))), (ad 14, .inr (2, [.ref (ad 15), .int (zI VB_top)])), (ad 15, .inl (cB, 36864, .inl (zA VB_row))), (ad 16, .inr (5, [.ref (ad 17), .ref (ad 18), .ref (ad 19), .ref (ad 20), .ref (ad 21), .ref (ad 22), .int (zI D_top)])), (ad 17, .inl (cI, 3201, .inl (zA D_forms))), (ad 18, .inl (cI, 3201, .inl (zA D_counts))), (ad 19, .inl (cL, 3201, .inr (.inl (zB D_numbers)))), (ad 20, .inl (cI, 3201, .inl (zA D_nodes))), (ad 21, .inl (cI, 3201, .inl (zA D_depths))), (ad 22, .inl (cI, 3201, .inl (zA D_weights))), (ad 23, .inr (6, [.int (zI M_steps), .int (zI M_memory), .int (zI M_mostSteps), .int (zI M_mostMemory), .int (zI M_fault)])), (ad 24, .inr (7, [.ref (ad 25), .ref (ad 26), .ref (ad 27), .int (zI W_depth), .int (zI W_most)])), (ad 25, .inl (cI, 400, .inl (zA W_nodes))), (ad 26, .inl (cI, 400, .inl (zA W_scopes))), (ad 27, .inl (cI, 400, .inl (zA W_functions))), (ad 28, .inr (8, [.ref (ad 29), .ref (ad 30), .int (zI S_top)])), (ad 29, .inl (cI, 3000, .inl (zA S_bound))), (ad 30, .inl (cI, 3000, .inl (zA S_outer))), (ad 31, .inr (9, [.ref (ad 9), .ref (ad 23), .ref (ad 32), .int (zI B_ready)])), (ad 32, .inl (cI, 3, .inl (zA B_given))), (ao, .inl (cL, 1, .inr (.inl (zB o))))] (some (.int (zI 2))) [(ad 0, .inr (0, [.ref (ad 1), .ref (ad 8), .int (zI C_answer)])), (ad 1, .inr (1, [.ref (ad 2), .ref (ad 3), .ref (ad 4), .ref (ad 5), .ref (ad 6), .int (zI T_nodes), .int (zI T_count)])), (ad 2, .inl (cI, 200, .inl (zA T_kinds))), (ad 3, .inl (cL, 200, .inr (.inl (zB T_args)))), (ad 4, .inl (cI, 200, .inl (zA T_firsts))), (ad 5, .inl (cI, 200, .inl (zA T_lacks))), (ad 6, .inr (2, [.ref (ad 7), .int (zI TB_top)])), (ad 7, .inl (cB, 12800, .inl (zA TB_row))), (ad 8, .inr (3, [.ref (ad 9), .ref (ad 23), .ref (ad 24), .ref (ad 28), .ref (ad 31), .ref (ad 1), .int (zI E_node), .int (zI E_scope), .int (zI E_value)])), (ad 9, .inr (4, [.ref (ad 14), .ref (ad 16), .ref (ad 10), .ref (ad 11), .ref (ad 12), .ref (ad 13), .int (zI V_top)])), (ad 10, .inl (cI, 3201, .inl (zA V_kinds))), (ad 11, .inl (cL, 3201, .inr (.inl (zB V_numbers)))), (ad 12, .inl (cI, 3201, .inl (zA V_parts))), (ad 13, .inl (cI, 3201, .inl (zA V_links))), (ad 14, .inr (2, [.ref (ad 15), .int (zI VB_top)])), (ad 15, .inl (cB, 36864, .inl (zA VB_row))), (ad 16, .inr (5, [.ref (ad 17), .ref (ad 18), .ref (ad 19), .ref (ad 20), .ref (ad 21), .ref (ad 22), .int (zI D_top)])), (ad 17, .inl (cI, 3201, .inl (zA D_forms))), (ad 18, .inl (cI, 3201, .inl (zA D_counts))), (ad 19, .inl (cL, 3201, .inr (.inl (zB D_numbers)))), (ad 20, .inl (cI, 3201, .inl (zA D_nodes))), (ad 21, .inl (cI, 3201, .inl (zA D_depths))), (ad 22, .inl (cI, 3201, .inl (zA D_weights))), (ad 23, .inr (6, [.int (zI M_steps), .int (zI M_memory), .int (zI M_mostSteps), .int (zI M_mostMemory), .int (zI M_fault)])), (ad 24, .inr (7, [.ref (ad 25), .ref (ad 26), .ref (ad 27), .int (zI W_depth), .int (zI W_most)])), (ad 25, .inl (cI, 400, .inl (zA W_nodes))), (ad 26, .inl (cI, 400, .inl (zA W_scopes))), (ad 27, .inl (cI, 400, .inl (zA W_functions))), (ad 28, .inr (8, [.ref (ad 29), .ref (ad 30), .int (zI S_top)])), (ad 29, .inl (cI, 3000, .inl (zA S_bound))), (ad 30, .inl (cI, 3000, .inl (zA S_outer))), (ad 31, .inr (9, [.ref (ad 9), .ref (ad 23), .ref (ad 32), .int (zI B_ready)])), (ad 32, .inl (cI, 3, .inl (zA B_given))), (ao, .inl (cL, 1, .inr (.inl (zB o))))] 1 6 := by
  refine CTW_of_J (cc := b_Law_run) (maxL := 5) (ret := (some .int)) (hh := [(0, 10, 13, 15), (0, 10, 17, 13)]) jFc_k (by decide) rfl (Nat.le_of_ble_eq_true rfl) ?_
  intro K hKl hKD X E htb
  subst hKl; subst hKD
  refine J_aload_n X d_Law_run_0 rfl 3 rfl ?_
  refine J_iconst X d_Law_run_1 ?_
  refine J_aload_n X d_Law_run_2 rfl 0 rfl ?_
  refine J_iload_n X d_Law_run_3 rfl 1 rfl ?_
  refine J_iload_n X d_Law_run_4 rfl 2 rfl ?_
  have hck : ckOk y_Law_run.cls (exN 1) 5 (jA K) (jS K) 17 (jC K).exceptionTable.toList := ckT_ok _ (by rw [htb]; exact ⟨by decide, by decide, "java/lang/IllegalStateException", X.1.2.2.2.2 _ (jl_x (by decide +kernel)), Or.inr ⟨X.2.2.2.2.2.2.2.1, ⟨by decide, by decide, "java/lang/IllegalArgumentException", X.1.2.2.2.2 _ (jl_x (by decide +kernel)), Or.inl ⟨X.2.2.2.2.2.1, rfl⟩⟩⟩⟩)
  refine J_catch X (ct_Cek_run (ad := ad) hfl h) jFe_k (fun _ _ _ h => h.1) (jlT (by decide +kernel)) rfl rfl rfl pd_Cek_run (by decide) [0, 1, 2, 3, 4, 5, 6, 7, 8, 9, 10, 11, 12, 13, 14, 15, 16, 17, 18, 19, 20, 21, 22, 23, 24, 25, 26, 27, 28, 29, 30, 31, 32] rfl (by decide) 0 0 rfl rfl rfl rfl (Nat.le_of_ble_eq_true rfl) d_Law_run_5 (by decide) hck (fun x => ?_)
  refine J_astore X d_Law_run_17 (by decide) rfl ?_
  refine J_iconst X d_Law_run_19 ?_
  exact J_ret E ⟨_, rfl, rfl⟩ d_Law_run_20 (by decide) (by decide) rfl
set_option maxHeartbeats 4000000 in
set_option maxRecDepth 100000 in
theorem cx2_run {l : Launch} {D : va_G} {cI cL cB : ClassId} {ad : Nat → Nat} {adK adV : Nat → Nat} {ro : Nat} {ao : Nat} {o : Int → Int} {C_answer : Int} {T_nodes : Int} {T_count : Int} {T_kinds : Int → Int} {T_args : Int → Int} {T_firsts : Int → Int} {T_lacks : Int → Int} {TB_top : Int} {TB_row : Int → Int} {E_node : Int} {E_scope : Int} {E_value : Int} {V_top : Int} {V_kinds : Int → Int} {V_numbers : Int → Int} {V_parts : Int → Int} {V_links : Int → Int} {VB_top : Int} {VB_row : Int → Int} {D_top : Int} {D_forms : Int → Int} {D_counts : Int → Int} {D_numbers : Int → Int} {D_nodes : Int → Int} {D_depths : Int → Int} {D_weights : Int → Int} {M_steps : Int} {M_memory : Int} {M_mostSteps : Int} {M_mostMemory : Int} {M_fault : Int} {W_depth : Int} {W_most : Int} {W_nodes : Int → Int} {W_scopes : Int → Int} {W_functions : Int → Int} {S_top : Int} {S_bound : Int → Int} {S_outer : Int → Int} {B_ready : Int} {B_given : Int → Int} {p1 : Int} {p2 : Int} (hfl : l.flags = pinnedFlags ++ [noTraceFlag]) (h : t_Cek_run T_nodes T_count T_lacks p1 p2 = some 2) : CT (jFc adK adV ro) false l D [(cI, .int), (cL, .long), (cB, .byte)] y_Law_run wl_run ({ frames := 8, cells := 1, slots := 6, locals := 222 } : Room) [.ref (ad 0), .int (zI p1), .int (zI p2), .ref ao] [(ad 0, .inr (0, [.ref (ad 1), .ref (ad 8), .int (zI C_answer)])), (ad 1, .inr (1, [.ref (ad 2), .ref (ad 3), .ref (ad 4), .ref (ad 5), .ref (ad 6), .int (zI T_nodes), .int (zI T_count)])), (ad 2, .inl (cI, 200, .inl (zA T_kinds))), (ad 3, .inl (cL, 200, .inr (.inl (zB T_args)))), (ad 4, .inl (cI, 200, .inl (zA T_firsts))), (ad 5, .inl (cI, 200, .inl (zA T_lacks))), (ad 6, .inr (2, [.ref (ad 7), .int (zI TB_top)])), (ad 7, .inl (cB, 12800, .inl (zA TB_row))), (ad 8, .inr (3, [.ref (ad 9), .ref (ad 23), .ref (ad 24), .ref (ad 28), .ref (ad 31), .ref (ad 1), .int (zI E_node), .int (zI E_scope), .int (zI E_value)])), (ad 9, .inr (4, [.ref (ad 14), .ref (ad 16), .ref (ad 10), .ref (ad 11), .ref (ad 12), .ref (ad 13), .int (zI V_top)])), (ad 10, .inl (cI, 3201, .inl (zA V_kinds))), (ad 11, .inl (cL, 3201, .inr (.inl (zB V_numbers)))), (ad 12, .inl (cI, 3201, .inl (zA V_parts))), (ad 13, .inl (cI, 3201, .inl (zA V_links))), (ad 14, .inr (2, [.ref (ad 15), .int (zI VB_top)])), (ad 15, .inl (cB, 36864, .inl (zA VB_row))), (ad 16, .inr (5, [.ref (ad 17), .ref (ad 18), .ref (ad 19), .ref (ad 20), .ref (ad 21), .ref (ad 22), .int (zI D_top)])), (ad 17, .inl (cI, 3201, .inl (zA D_forms))), (ad 18, .inl (cI, 3201, .inl (zA D_counts))), (ad 19, .inl (cL, 3201, .inr (.inl (zB D_numbers)))), (ad 20, .inl (cI, 3201, .inl (zA D_nodes))), (ad 21, .inl (cI, 3201, .inl (zA D_depths))), (ad 22, .inl (cI, 3201, .inl (zA D_weights))), (ad 23, .inr (6, [.int (zI M_steps), .int (zI M_memory), .int (zI M_mostSteps), .int (zI M_mostMemory), .int (zI M_fault)])), (ad 24, .inr (7, [.ref (ad 25), .ref (ad 26), .ref (ad 27), .int (zI W_depth), .int (zI W_most)])), (ad 25, .inl (cI, 400, .inl (zA W_nodes))), (ad 26, .inl (cI, 400, .inl (zA W_scopes))), (ad 27, .inl (cI, 400, .inl (zA W_functions))), (ad 28, .inr (8, [.ref (ad 29), .ref (ad 30), .int (zI S_top)])), (ad 29, .inl (cI, 3000, .inl (zA S_bound))), (ad 30, .inl (cI, 3000, .inl (zA S_outer))), (ad 31, .inr (9, [.ref (ad 9), .ref (ad 23), .ref (ad 32), .int (zI B_ready)])), (ad 32, .inl (cI, 3, .inl (zA B_given))), (ao, .inl (cL, 1, .inr (.inl (zB o))))] (some (.int (zI 1))) [(ad 0, .inr (0, [.ref (ad 1), .ref (ad 8), .int (zI C_answer)])), (ad 1, .inr (1, [.ref (ad 2), .ref (ad 3), .ref (ad 4), .ref (ad 5), .ref (ad 6), .int (zI T_nodes), .int (zI T_count)])), (ad 2, .inl (cI, 200, .inl (zA T_kinds))), (ad 3, .inl (cL, 200, .inr (.inl (zB T_args)))), (ad 4, .inl (cI, 200, .inl (zA T_firsts))), (ad 5, .inl (cI, 200, .inl (zA T_lacks))), (ad 6, .inr (2, [.ref (ad 7), .int (zI TB_top)])), (ad 7, .inl (cB, 12800, .inl (zA TB_row))), (ad 8, .inr (3, [.ref (ad 9), .ref (ad 23), .ref (ad 24), .ref (ad 28), .ref (ad 31), .ref (ad 1), .int (zI E_node), .int (zI E_scope), .int (zI E_value)])), (ad 9, .inr (4, [.ref (ad 14), .ref (ad 16), .ref (ad 10), .ref (ad 11), .ref (ad 12), .ref (ad 13), .int (zI V_top)])), (ad 10, .inl (cI, 3201, .inl (zA V_kinds))), (ad 11, .inl (cL, 3201, .inr (.inl (zB V_numbers)))), (ad 12, .inl (cI, 3201, .inl (zA V_parts))), (ad 13, .inl (cI, 3201, .inl (zA V_links))), (ad 14, .inr (2, [.ref (ad 15), .int (zI VB_top)])), (ad 15, .inl (cB, 36864, .inl (zA VB_row))), (ad 16, .inr (5, [.ref (ad 17), .ref (ad 18), .ref (ad 19), .ref (ad 20), .ref (ad 21), .ref (ad 22), .int (zI D_top)])), (ad 17, .inl (cI, 3201, .inl (zA D_forms))), (ad 18, .inl (cI, 3201, .inl (zA D_counts))), (ad 19, .inl (cL, 3201, .inr (.inl (zB D_numbers)))), (ad 20, .inl (cI, 3201, .inl (zA D_nodes))), (ad 21, .inl (cI, 3201, .inl (zA D_depths))), (ad 22, .inl (cI, 3201, .inl (zA D_weights))), (ad 23, .inr (6, [.int (zI M_steps), .int (zI M_memory), .int (zI M_mostSteps), .int (zI M_mostMemory), .int (zI M_fault)])), (ad 24, .inr (7, [.ref (ad 25), .ref (ad 26), .ref (ad 27), .int (zI W_depth), .int (zI W_most)])), (ad 25, .inl (cI, 400, .inl (zA W_nodes))), (ad 26, .inl (cI, 400, .inl (zA W_scopes))), (ad 27, .inl (cI, 400, .inl (zA W_functions))), (ad 28, .inr (8, [.ref (ad 29), .ref (ad 30), .int (zI S_top)])), (ad 29, .inl (cI, 3000, .inl (zA S_bound))), (ad 30, .inl (cI, 3000, .inl (zA S_outer))), (ad 31, .inr (9, [.ref (ad 9), .ref (ad 23), .ref (ad 32), .int (zI B_ready)])), (ad 32, .inl (cI, 3, .inl (zA B_given))), (ao, .inl (cL, 1, .inr (.inl (zB o))))] 1 6 := by
  refine CTW_of_J (cc := b_Law_run) (maxL := 5) (ret := (some .int)) (hh := [(0, 10, 13, 15), (0, 10, 17, 13)]) jFc_k (by decide) rfl (Nat.le_of_ble_eq_true rfl) ?_
  intro K hKl hKD X E htb
  subst hKl; subst hKD
  refine J_aload_n X d_Law_run_0 rfl 3 rfl ?_
  refine J_iconst X d_Law_run_1 ?_
  refine J_aload_n X d_Law_run_2 rfl 0 rfl ?_
  refine J_iload_n X d_Law_run_3 rfl 1 rfl ?_
  refine J_iload_n X d_Law_run_4 rfl 2 rfl ?_
  have hck : ckOk y_Law_run.cls (exN 2) 5 (jA K) (jS K) 13 (jC K).exceptionTable.toList := ckT_ok _ (by rw [htb]; exact ⟨by decide, by decide, "java/lang/IllegalStateException", X.1.2.2.2.2 _ (jl_x (by decide +kernel)), Or.inl ⟨X.2.2.2.2.2.2.1, rfl⟩⟩)
  refine J_catch X (ct_Cek_run (ad := ad) hfl h) jFe_k (fun _ _ _ h => h.1) (jlT (by decide +kernel)) rfl rfl rfl pd_Cek_run (by decide) [0, 1, 2, 3, 4, 5, 6, 7, 8, 9, 10, 11, 12, 13, 14, 15, 16, 17, 18, 19, 20, 21, 22, 23, 24, 25, 26, 27, 28, 29, 30, 31, 32] rfl (by decide) 0 0 rfl rfl rfl rfl (Nat.le_of_ble_eq_true rfl) d_Law_run_5 (by decide) hck (fun x => ?_)
  refine J_astore X d_Law_run_13 (by decide) rfl ?_
  refine J_iconst X d_Law_run_15 ?_
  exact J_ret E ⟨_, rfl, rfl⟩ d_Law_run_16 (by decide) (by decide) rfl
abbrev wl_number : List Cond := .codeWith y_Law_number b_Law_number 3 (some .int) [(0, 7, 10, 15)] :: (wo_Law ++ (wX ++ wA))
theorem d_Law_number_0 : decode b_Law_number 0 = .ok (.aload_n 1, 1) := by decide +kernel
theorem d_Law_number_1 : decode b_Law_number 1 = .ok (.iconst 0, 1) := by decide +kernel
theorem d_Law_number_2 : decode b_Law_number 2 = .ok (.aload_n 0, 1) := by decide +kernel
theorem d_Law_number_3 : decode b_Law_number 3 = .ok (.invokevirtual 25, 3) := by decide +kernel
theorem d_Law_number_6 : decode b_Law_number 6 = .ok (.lastore, 1) := by decide +kernel
theorem d_Law_number_7 : decode b_Law_number 7 = .ok (.goto 6, 3) := by decide +kernel
theorem d_Law_number_10 : decode b_Law_number 10 = .ok (.astore_n 2, 1) := by decide +kernel
theorem d_Law_number_11 : decode b_Law_number 11 = .ok (.iconst 1, 1) := by decide +kernel
theorem d_Law_number_12 : decode b_Law_number 12 = .ok (.ireturn, 1) := by decide +kernel
theorem d_Law_number_13 : decode b_Law_number 13 = .ok (.iconst 0, 1) := by decide +kernel
theorem d_Law_number_14 : decode b_Law_number 14 = .ok (.ireturn, 1) := by decide +kernel
set_option maxHeartbeats 4000000 in
set_option maxRecDepth 100000 in
theorem cl_number {l : Launch} {D : va_G} {cI cL cB : ClassId} {ad : Nat → Nat} {adK adV : Nat → Nat} {ro : Nat} {ao : Nat} {o : Int → Int} {C_answer : Int} {E_node : Int} {E_scope : Int} {E_value : Int} {V_top : Int} {V_kinds : Int → Int} {V_numbers : Int → Int} {V_parts : Int → Int} {V_links : Int → Int} {D_top : Int} {D_nodes : Int → Int} {out : Int} (h : f_Cek_number C_answer E_value V_top V_kinds V_numbers V_parts V_links D_top D_nodes = some out) : CT (jFc adK adV ro) false l D [(cI, .int), (cL, .long), (cB, .byte)] y_Law_number wl_number ({ frames := 7, cells := 1, slots := 6, locals := 121 } : Room) [.ref (ad 0), .ref ao] [(ad 0, .inr (0, [.ref (ad 1), .ref (ad 8), .int (zI C_answer)])), (ad 8, .inr (3, [.ref (ad 9), .ref (ad 23), .ref (ad 24), .ref (ad 28), .ref (ad 31), .ref (ad 1), .int (zI E_node), .int (zI E_scope), .int (zI E_value)])), (ad 9, .inr (4, [.ref (ad 14), .ref (ad 16), .ref (ad 10), .ref (ad 11), .ref (ad 12), .ref (ad 13), .int (zI V_top)])), (ad 10, .inl (cI, 3201, .inl (zA V_kinds))), (ad 11, .inl (cL, 3201, .inr (.inl (zB V_numbers)))), (ad 12, .inl (cI, 3201, .inl (zA V_parts))), (ad 13, .inl (cI, 3201, .inl (zA V_links))), (ad 16, .inr (5, [.ref (ad 17), .ref (ad 18), .ref (ad 19), .ref (ad 20), .ref (ad 21), .ref (ad 22), .int (zI D_top)])), (ad 20, .inl (cI, 3201, .inl (zA D_nodes))), (ao, .inl (cL, 1, .inr (.inl (zB o))))] (some (.int (zI 0))) [(ad 0, .inr (0, [.ref (ad 1), .ref (ad 8), .int (zI C_answer)])), (ad 8, .inr (3, [.ref (ad 9), .ref (ad 23), .ref (ad 24), .ref (ad 28), .ref (ad 31), .ref (ad 1), .int (zI E_node), .int (zI E_scope), .int (zI E_value)])), (ad 9, .inr (4, [.ref (ad 14), .ref (ad 16), .ref (ad 10), .ref (ad 11), .ref (ad 12), .ref (ad 13), .int (zI V_top)])), (ad 10, .inl (cI, 3201, .inl (zA V_kinds))), (ad 11, .inl (cL, 3201, .inr (.inl (zB V_numbers)))), (ad 12, .inl (cI, 3201, .inl (zA V_parts))), (ad 13, .inl (cI, 3201, .inl (zA V_links))), (ad 16, .inr (5, [.ref (ad 17), .ref (ad 18), .ref (ad 19), .ref (ad 20), .ref (ad 21), .ref (ad 22), .int (zI D_top)])), (ad 20, .inl (cI, 3201, .inl (zA D_nodes))), (ao, .inl (cL, 1, .inr (.inl (zB (upZ o 0 (out))))))] 1 6 := by
  refine CTW_of_J (cc := b_Law_number) (maxL := 3) (ret := (some .int)) (hh := [(0, 7, 10, 15)]) jFc_k (by decide) rfl (Nat.le_of_ble_eq_true rfl) ?_
  intro K hKl hKD X E htb
  subst hKl; subst hKD
  refine J_aload_n X d_Law_number_0 rfl 1 rfl ?_
  refine J_iconst X d_Law_number_1 ?_
  refine J_aload_n X d_Law_number_2 rfl 0 rfl ?_
  refine J_afterP (jrunV X (c_Cek_number (ad := ad) h) jF0_k (fun _ _ _ _ => trivial) (jlV (by decide +kernel)) rfl rfl rfl pd_Cek_number (by decide) [0, 1, 2, 3, 4, 5, 6, 7, 8] rfl (by decide) 0 0 rfl rfl rfl rfl (Nat.le_of_ble_eq_true rfl) d_Law_number_3 (by decide)) ?_
  refine J_last X 9 1 rfl rfl (by decide) d_Law_number_6 rfl ?_
  refine J_goto (tgt := 13) X d_Law_number_7 (by decide) ?_
  refine J_iconst X d_Law_number_13 ?_
  exact J_ret E ⟨_, rfl, rfl⟩ d_Law_number_14 (by decide) (by decide) rfl
set_option maxHeartbeats 4000000 in
set_option maxRecDepth 100000 in
theorem cx2_number {l : Launch} {D : va_G} {cI cL cB : ClassId} {ad : Nat → Nat} {adK adV : Nat → Nat} {ro : Nat} {ao : Nat} {o : Int → Int} {C_answer : Int} {E_node : Int} {E_scope : Int} {E_value : Int} {V_top : Int} {V_kinds : Int → Int} {V_numbers : Int → Int} {V_parts : Int → Int} {V_links : Int → Int} {D_top : Int} {D_nodes : Int → Int} (hfl : l.flags = pinnedFlags ++ [noTraceFlag]) (h : t_Cek_number C_answer E_value V_top V_kinds V_numbers V_parts V_links D_top D_nodes = some 2) : CT (jFc adK adV ro) false l D [(cI, .int), (cL, .long), (cB, .byte)] y_Law_number wl_number ({ frames := 7, cells := 1, slots := 6, locals := 121 } : Room) [.ref (ad 0), .ref ao] [(ad 0, .inr (0, [.ref (ad 1), .ref (ad 8), .int (zI C_answer)])), (ad 8, .inr (3, [.ref (ad 9), .ref (ad 23), .ref (ad 24), .ref (ad 28), .ref (ad 31), .ref (ad 1), .int (zI E_node), .int (zI E_scope), .int (zI E_value)])), (ad 9, .inr (4, [.ref (ad 14), .ref (ad 16), .ref (ad 10), .ref (ad 11), .ref (ad 12), .ref (ad 13), .int (zI V_top)])), (ad 10, .inl (cI, 3201, .inl (zA V_kinds))), (ad 11, .inl (cL, 3201, .inr (.inl (zB V_numbers)))), (ad 12, .inl (cI, 3201, .inl (zA V_parts))), (ad 13, .inl (cI, 3201, .inl (zA V_links))), (ad 16, .inr (5, [.ref (ad 17), .ref (ad 18), .ref (ad 19), .ref (ad 20), .ref (ad 21), .ref (ad 22), .int (zI D_top)])), (ad 20, .inl (cI, 3201, .inl (zA D_nodes))), (ao, .inl (cL, 1, .inr (.inl (zB o))))] (some (.int (zI 1))) [(ad 0, .inr (0, [.ref (ad 1), .ref (ad 8), .int (zI C_answer)])), (ad 8, .inr (3, [.ref (ad 9), .ref (ad 23), .ref (ad 24), .ref (ad 28), .ref (ad 31), .ref (ad 1), .int (zI E_node), .int (zI E_scope), .int (zI E_value)])), (ad 9, .inr (4, [.ref (ad 14), .ref (ad 16), .ref (ad 10), .ref (ad 11), .ref (ad 12), .ref (ad 13), .int (zI V_top)])), (ad 10, .inl (cI, 3201, .inl (zA V_kinds))), (ad 11, .inl (cL, 3201, .inr (.inl (zB V_numbers)))), (ad 12, .inl (cI, 3201, .inl (zA V_parts))), (ad 13, .inl (cI, 3201, .inl (zA V_links))), (ad 16, .inr (5, [.ref (ad 17), .ref (ad 18), .ref (ad 19), .ref (ad 20), .ref (ad 21), .ref (ad 22), .int (zI D_top)])), (ad 20, .inl (cI, 3201, .inl (zA D_nodes))), (ao, .inl (cL, 1, .inr (.inl (zB o))))] 1 6 := by
  refine CTW_of_J (cc := b_Law_number) (maxL := 3) (ret := (some .int)) (hh := [(0, 7, 10, 15)]) jFc_k (by decide) rfl (Nat.le_of_ble_eq_true rfl) ?_
  intro K hKl hKD X E htb
  subst hKl; subst hKD
  refine J_aload_n X d_Law_number_0 rfl 1 rfl ?_
  refine J_iconst X d_Law_number_1 ?_
  refine J_aload_n X d_Law_number_2 rfl 0 rfl ?_
  have hck : ckOk y_Law_number.cls (exN 2) 3 (jA K) (jS K) 10 (jC K).exceptionTable.toList := ckT_ok _ (by rw [htb]; exact ⟨by decide, by decide, "java/lang/IllegalStateException", X.1.2.2.2.2 _ (jl_x (by decide +kernel)), Or.inl ⟨X.2.2.2.2.2.2.1, rfl⟩⟩)
  refine J_catch X (ct_Cek_number (ad := ad) hfl h) jFe_k (fun _ _ _ h => h.1) (jlT (by decide +kernel)) rfl rfl rfl pd_Cek_number (by decide) [0, 1, 2, 3, 4, 5, 6, 7, 8] rfl (by decide) 0 0 rfl rfl rfl rfl (Nat.le_of_ble_eq_true rfl) d_Law_number_3 (by decide) hck (fun x => ?_)
  refine J_astore_n X d_Law_number_10 rfl (by decide) rfl ?_
  refine J_iconst X d_Law_number_11 ?_
  exact J_ret E ⟨_, rfl, rfl⟩ d_Law_number_12 (by decide) (by decide) rfl
abbrev wl_dataValue : List Cond := .codeWith y_Law_dataValue b_Law_dataValue 4 (some .int) [(0, 8, 11, 15)] :: (wo_Law ++ (wX ++ wA))
theorem d_Law_dataValue_0 : decode b_Law_dataValue 0 = .ok (.aload_n 2, 1) := by decide +kernel
theorem d_Law_dataValue_1 : decode b_Law_dataValue 1 = .ok (.iconst 0, 1) := by decide +kernel
theorem d_Law_dataValue_2 : decode b_Law_dataValue 2 = .ok (.aload_n 0, 1) := by decide +kernel
theorem d_Law_dataValue_3 : decode b_Law_dataValue 3 = .ok (.iload_n 1, 1) := by decide +kernel
theorem d_Law_dataValue_4 : decode b_Law_dataValue 4 = .ok (.invokevirtual 29, 3) := by decide +kernel
theorem d_Law_dataValue_7 : decode b_Law_dataValue 7 = .ok (.lastore, 1) := by decide +kernel
theorem d_Law_dataValue_8 : decode b_Law_dataValue 8 = .ok (.goto 6, 3) := by decide +kernel
theorem d_Law_dataValue_11 : decode b_Law_dataValue 11 = .ok (.astore_n 3, 1) := by decide +kernel
theorem d_Law_dataValue_12 : decode b_Law_dataValue 12 = .ok (.iconst 1, 1) := by decide +kernel
theorem d_Law_dataValue_13 : decode b_Law_dataValue 13 = .ok (.ireturn, 1) := by decide +kernel
theorem d_Law_dataValue_14 : decode b_Law_dataValue 14 = .ok (.iconst 0, 1) := by decide +kernel
theorem d_Law_dataValue_15 : decode b_Law_dataValue 15 = .ok (.ireturn, 1) := by decide +kernel
set_option maxHeartbeats 4000000 in
set_option maxRecDepth 100000 in
theorem cl_dataValue {l : Launch} {D : va_G} {cI cL cB : ClassId} {ad : Nat → Nat} {adK adV : Nat → Nat} {ro : Nat} {ao : Nat} {o : Int → Int} {C_answer : Int} {E_node : Int} {E_scope : Int} {E_value : Int} {V_top : Int} {V_kinds : Int → Int} {V_parts : Int → Int} {D_top : Int} {D_forms : Int → Int} {D_numbers : Int → Int} {D_nodes : Int → Int} {p1 : Int} {out : Int} (h : f_Cek_dataValue C_answer E_value V_top V_kinds V_parts D_top D_forms D_numbers D_nodes p1 = some out) : CT (jFc adK adV ro) false l D [(cI, .int), (cL, .long), (cB, .byte)] y_Law_dataValue wl_dataValue ({ frames := 7, cells := 1, slots := 6, locals := 123 } : Room) [.ref (ad 0), .int (zI p1), .ref ao] [(ad 0, .inr (0, [.ref (ad 1), .ref (ad 8), .int (zI C_answer)])), (ad 8, .inr (3, [.ref (ad 9), .ref (ad 23), .ref (ad 24), .ref (ad 28), .ref (ad 31), .ref (ad 1), .int (zI E_node), .int (zI E_scope), .int (zI E_value)])), (ad 9, .inr (4, [.ref (ad 14), .ref (ad 16), .ref (ad 10), .ref (ad 11), .ref (ad 12), .ref (ad 13), .int (zI V_top)])), (ad 10, .inl (cI, 3201, .inl (zA V_kinds))), (ad 12, .inl (cI, 3201, .inl (zA V_parts))), (ad 16, .inr (5, [.ref (ad 17), .ref (ad 18), .ref (ad 19), .ref (ad 20), .ref (ad 21), .ref (ad 22), .int (zI D_top)])), (ad 17, .inl (cI, 3201, .inl (zA D_forms))), (ad 19, .inl (cL, 3201, .inr (.inl (zB D_numbers)))), (ad 20, .inl (cI, 3201, .inl (zA D_nodes))), (ao, .inl (cL, 1, .inr (.inl (zB o))))] (some (.int (zI 0))) [(ad 0, .inr (0, [.ref (ad 1), .ref (ad 8), .int (zI C_answer)])), (ad 8, .inr (3, [.ref (ad 9), .ref (ad 23), .ref (ad 24), .ref (ad 28), .ref (ad 31), .ref (ad 1), .int (zI E_node), .int (zI E_scope), .int (zI E_value)])), (ad 9, .inr (4, [.ref (ad 14), .ref (ad 16), .ref (ad 10), .ref (ad 11), .ref (ad 12), .ref (ad 13), .int (zI V_top)])), (ad 10, .inl (cI, 3201, .inl (zA V_kinds))), (ad 12, .inl (cI, 3201, .inl (zA V_parts))), (ad 16, .inr (5, [.ref (ad 17), .ref (ad 18), .ref (ad 19), .ref (ad 20), .ref (ad 21), .ref (ad 22), .int (zI D_top)])), (ad 17, .inl (cI, 3201, .inl (zA D_forms))), (ad 19, .inl (cL, 3201, .inr (.inl (zB D_numbers)))), (ad 20, .inl (cI, 3201, .inl (zA D_nodes))), (ao, .inl (cL, 1, .inr (.inl (zB (upZ o 0 (out))))))] 1 6 := by
  refine CTW_of_J (cc := b_Law_dataValue) (maxL := 4) (ret := (some .int)) (hh := [(0, 8, 11, 15)]) jFc_k (by decide) rfl (Nat.le_of_ble_eq_true rfl) ?_
  intro K hKl hKD X E htb
  subst hKl; subst hKD
  refine J_aload_n X d_Law_dataValue_0 rfl 2 rfl ?_
  refine J_iconst X d_Law_dataValue_1 ?_
  refine J_aload_n X d_Law_dataValue_2 rfl 0 rfl ?_
  refine J_iload_n X d_Law_dataValue_3 rfl 1 rfl ?_
  refine J_afterP (jrunV X (c_Cek_dataValue (ad := ad) h) jF0_k (fun _ _ _ _ => trivial) (jlV (by decide +kernel)) rfl rfl rfl pd_Cek_dataValue (by decide) [0, 1, 2, 3, 4, 5, 6, 7, 8] rfl (by decide) 0 0 rfl rfl rfl rfl (Nat.le_of_ble_eq_true rfl) d_Law_dataValue_4 (by decide)) ?_
  refine J_last X 9 1 rfl rfl (by decide) d_Law_dataValue_7 rfl ?_
  refine J_goto (tgt := 14) X d_Law_dataValue_8 (by decide) ?_
  refine J_iconst X d_Law_dataValue_14 ?_
  exact J_ret E ⟨_, rfl, rfl⟩ d_Law_dataValue_15 (by decide) (by decide) rfl
set_option maxHeartbeats 4000000 in
set_option maxRecDepth 100000 in
theorem cx2_dataValue {l : Launch} {D : va_G} {cI cL cB : ClassId} {ad : Nat → Nat} {adK adV : Nat → Nat} {ro : Nat} {ao : Nat} {o : Int → Int} {C_answer : Int} {E_node : Int} {E_scope : Int} {E_value : Int} {V_top : Int} {V_kinds : Int → Int} {V_parts : Int → Int} {D_top : Int} {D_forms : Int → Int} {D_numbers : Int → Int} {D_nodes : Int → Int} {p1 : Int} (hfl : l.flags = pinnedFlags ++ [noTraceFlag]) (h : t_Cek_dataValue C_answer E_value V_top V_kinds V_parts D_top D_forms D_numbers D_nodes p1 = some 2) : CT (jFc adK adV ro) false l D [(cI, .int), (cL, .long), (cB, .byte)] y_Law_dataValue wl_dataValue ({ frames := 7, cells := 1, slots := 6, locals := 123 } : Room) [.ref (ad 0), .int (zI p1), .ref ao] [(ad 0, .inr (0, [.ref (ad 1), .ref (ad 8), .int (zI C_answer)])), (ad 8, .inr (3, [.ref (ad 9), .ref (ad 23), .ref (ad 24), .ref (ad 28), .ref (ad 31), .ref (ad 1), .int (zI E_node), .int (zI E_scope), .int (zI E_value)])), (ad 9, .inr (4, [.ref (ad 14), .ref (ad 16), .ref (ad 10), .ref (ad 11), .ref (ad 12), .ref (ad 13), .int (zI V_top)])), (ad 10, .inl (cI, 3201, .inl (zA V_kinds))), (ad 12, .inl (cI, 3201, .inl (zA V_parts))), (ad 16, .inr (5, [.ref (ad 17), .ref (ad 18), .ref (ad 19), .ref (ad 20), .ref (ad 21), .ref (ad 22), .int (zI D_top)])), (ad 17, .inl (cI, 3201, .inl (zA D_forms))), (ad 19, .inl (cL, 3201, .inr (.inl (zB D_numbers)))), (ad 20, .inl (cI, 3201, .inl (zA D_nodes))), (ao, .inl (cL, 1, .inr (.inl (zB o))))] (some (.int (zI 1))) [(ad 0, .inr (0, [.ref (ad 1), .ref (ad 8), .int (zI C_answer)])), (ad 8, .inr (3, [.ref (ad 9), .ref (ad 23), .ref (ad 24), .ref (ad 28), .ref (ad 31), .ref (ad 1), .int (zI E_node), .int (zI E_scope), .int (zI E_value)])), (ad 9, .inr (4, [.ref (ad 14), .ref (ad 16), .ref (ad 10), .ref (ad 11), .ref (ad 12), .ref (ad 13), .int (zI V_top)])), (ad 10, .inl (cI, 3201, .inl (zA V_kinds))), (ad 12, .inl (cI, 3201, .inl (zA V_parts))), (ad 16, .inr (5, [.ref (ad 17), .ref (ad 18), .ref (ad 19), .ref (ad 20), .ref (ad 21), .ref (ad 22), .int (zI D_top)])), (ad 17, .inl (cI, 3201, .inl (zA D_forms))), (ad 19, .inl (cL, 3201, .inr (.inl (zB D_numbers)))), (ad 20, .inl (cI, 3201, .inl (zA D_nodes))), (ao, .inl (cL, 1, .inr (.inl (zB o))))] 1 6 := by
  refine CTW_of_J (cc := b_Law_dataValue) (maxL := 4) (ret := (some .int)) (hh := [(0, 8, 11, 15)]) jFc_k (by decide) rfl (Nat.le_of_ble_eq_true rfl) ?_
  intro K hKl hKD X E htb
  subst hKl; subst hKD
  refine J_aload_n X d_Law_dataValue_0 rfl 2 rfl ?_
  refine J_iconst X d_Law_dataValue_1 ?_
  refine J_aload_n X d_Law_dataValue_2 rfl 0 rfl ?_
  refine J_iload_n X d_Law_dataValue_3 rfl 1 rfl ?_
  have hck : ckOk y_Law_dataValue.cls (exN 2) 4 (jA K) (jS K) 11 (jC K).exceptionTable.toList := ckT_ok _ (by rw [htb]; exact ⟨by decide, by decide, "java/lang/IllegalStateException", X.1.2.2.2.2 _ (jl_x (by decide +kernel)), Or.inl ⟨X.2.2.2.2.2.2.1, rfl⟩⟩)
  refine J_catch X (ct_Cek_dataValue (ad := ad) hfl h) jFe_k (fun _ _ _ h => h.1) (jlT (by decide +kernel)) rfl rfl rfl pd_Cek_dataValue (by decide) [0, 1, 2, 3, 4, 5, 6, 7, 8] rfl (by decide) 0 0 rfl rfl rfl rfl (Nat.le_of_ble_eq_true rfl) d_Law_dataValue_4 (by decide) hck (fun x => ?_)
  refine J_astore_n X d_Law_dataValue_11 rfl (by decide) rfl ?_
  refine J_iconst X d_Law_dataValue_12 ?_
  exact J_ret E ⟨_, rfl, rfl⟩ d_Law_dataValue_13 (by decide) (by decide) rfl
