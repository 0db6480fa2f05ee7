/-! STRING CONSTANTS: where they lie, what they hold, as facts on cells that nobody writes. -/
def sJ : List (String × Nat × String) := [("CekMachine", 38, "no such kind or arg"), ("CekMachine", 57, "too few TERMS or too many NODES"), ("CekMachine", 64, "no such number of bytes"), ("CekMachine", 66, "too many NODES"), ("CekMachine", 82, "no TERM that is CLOSED"), ("CekMachine", 84, "no such budget"), ("CekMachine$Builtins", 27, "ss"), ("CekMachine$Builtins", 29, "s"), ("CekMachine$Builtins", 31, "si"), ("CekMachine$Builtins", 33, "iis"), ("CekMachine$Builtins", 35, "tvv"), ("CekMachine$Builtins", 37, "dd"), ("CekMachine$Builtins", 39, "d"), ("CekMachine$Builtins", 41, "c"), ("CekMachine$Builtins", 43, "il"), ("CekMachine$Builtins", 45, "i"), ("CekMachine$Builtins", 47, "n"), ("CekMachine$Builtins", 49, "b"), ("CekMachine$Builtins", 51, "l"), ("CekMachine$Builtins", 53, "dl"), ("CekMachine$Builtins", 55, "m"), ("CekMachine$Builtins", 57, "ii"), ("CekMachine$Builtins", 158, "cmlnb"), ("CekMachine", 102, "no result"), ("CekMachine", 144, "no INTEGER of DATA there")]
def lenS : List Nat := [19, 31, 23, 14, 22, 14, 2, 1, 2, 3, 3, 2, 1, 1, 2, 1, 1, 1, 1, 2, 1, 2, 5, 9, 24]
def bytS : List (List Int32) := [[110, 111, 32, 115, 117, 99, 104, 32, 107, 105, 110, 100, 32, 111, 114, 32, 97, 114, 103], [116, 111, 111, 32, 102, 101, 119, 32, 84, 69, 82, 77, 83, 32, 111, 114, 32, 116, 111, 111, 32, 109, 97, 110, 121, 32, 78, 79, 68, 69, 83], [110, 111, 32, 115, 117, 99, 104, 32, 110, 117, 109, 98, 101, 114, 32, 111, 102, 32, 98, 121, 116, 101, 115], [116, 111, 111, 32, 109, 97, 110, 121, 32, 78, 79, 68, 69, 83], [110, 111, 32, 84, 69, 82, 77, 32, 116, 104, 97, 116, 32, 105, 115, 32, 67, 76, 79, 83, 69, 68], [110, 111, 32, 115, 117, 99, 104, 32, 98, 117, 100, 103, 101, 116], [115, 115], [115], [115, 105], [105, 105, 115], [116, 118, 118], [100, 100], [100], [99], [105, 108], [105], [110], [98], [108], [100, 108], [109], [105, 105], [99, 109, 108, 110, 98], [110, 111, 32, 114, 101, 115, 117, 108, 116], [110, 111, 32, 73, 78, 84, 69, 71, 69, 82, 32, 111, 102, 32, 68, 65, 84, 65, 32, 116, 104, 101, 114, 101]]
def lenZ (i : Nat) : Int := ((lenS.getD i 0 : Nat) : Int)
def bytZ (i : Nat) (x : Int) : Int := ((bytS.getD i []).getD x.toNat 0).toInt
def jFs (adK adV : Nat → Nat) (ro : Option Nat) : jFt := fun A U H => vk_S 25 lenS bytS adK adV A U H ∧ (∀ (i : Nat) (q : String × Nat × String), sJ[i]? = some q → vk_R q.1 q.2.1 q.2.2 (adK i) U) ∧ va_Z "java/lang/String" "COMPACT_STRINGS" "Z" (.int 1) A U H ∧ va_Z "jdk/internal/util/Preconditions" "SIOOBE_FORMATTER" "Ljava/util/function/BiFunction;" (va_rf ro) A U H
theorem jFs_k {adK adV : Nat → Nat} {ro : Option Nat} : jFk (jFs adK adV ro) := by
  refine ⟨fun A u U H hW h => ⟨h.1.moved hW.alike, fun i q hq => (h.2.1 i q hq).warm hW, h.2.2.1.moved hW.alike, h.2.2.2.moved hW.alike⟩, fun A u U H e h => ?_, fun A U H H1 hq h => ⟨h.1.kept hq, h.2.1, h.2.2.1.kept hq, h.2.2.2.kept hq⟩, fun A B U H hAB h => ⟨h.1.narrow hAB, h.2.1, h.2.2.1.narrow hAB, h.2.2.2.narrow hAB⟩⟩
  have al : u.vm.Alike U.vm := e ▸ Vm.Alike.refl u.vm
  exact ⟨h.1.moved al, fun i q hq => (h.2.1 i q hq).same e.symm, h.2.2.1.moved al, h.2.2.2.moved al⟩
def j_i2c (x : Int) : Int := ((zI x).toUInt32 % 65536).toInt32.toInt
def j_ishr (x y : Int) : Int := (zI x >>> (zI y &&& 31)).toInt
def jch (r : Int) : Bool := decide (0 ≤ r ∧ r ≤ 65535)
theorem jch_iff {r : Int} : jch r = true ↔ 0 ≤ r ∧ r ≤ 65535 := decide_eq_true_iff
theorem zI_nat (n : Nat) : zI (n : Int) = nI n := Int32.ofInt_eq_ofNat
theorem j_char {r : Int} (h : jch r = true) : narrow .char (.int (zI r)) = .int (zI r) := by
  have h1 := jch_iff.mp h
  have e : zI r = nI r.toNat := by rw [← zI_nat, show (r.toNat : Int) = r by omega]
  rw [e]
  exact (pk_charN (by omega)).1
section JSt
variable {adK adV : Nat → Nat} {ro : Option Nat} {F : jFt} {K : jK} {nL : Nat} {R : Room} {pu : Bool} {cells slots : Nat} {ws : va_W} {lv : List (Nat × Value)} {st rest : List Value} {pc : Nat} {cc : ByteArray} {Ts : List Cond} {own : String} {tys : List (ClassId × FieldType)}
theorem J_i2c (X : jX F K nL cc Ts own tys) {x : Int} (hd : decode cc pc = .ok (.i2c, 1)) (k : J K nL R pu cells slots ws lv (.int (zI (j_i2c x)) :: rest) (pc + 1)) : J K nL R pu cells slots ws lv (.int (zI x) :: rest) pc :=
  fun H locs ls h hl => lv_i2c X.1.1 X.1.2.1 hd (zI_of _).symm (k H locs ls h hl)
theorem J_ishr (X : jX F K nL cc Ts own tys) {x y : Int} (hd : decode cc pc = .ok (.ishr, 1)) (k : J K nL R pu cells slots ws lv (.int (zI (j_ishr x y)) :: rest) (pc + 1)) : J K nL R pu cells slots ws lv (.int (zI y) :: .int (zI x) :: rest) pc := by
  unfold j_ishr at k
  rw [zI_of] at k
  exact fun H locs ls h hl => lv_ishr X.1.1 X.1.2.1 hd (k H locs ls h hl)
theorem J_ldcS (X : jX (jFs adK adV ro) K nL cc Ts own tys) (i : Nat) {index : Nat} {tx : String} (hi : sJ[i]? = some (own, index, tx)) (hd : decode cc pc = .ok (.ldc index, 2)) (k : J K nL R pu cells slots ws lv (.ref (adK i) :: rest) (pc + 2)) : J K nL R pu cells slots ws lv rest pc :=
  fun H locs ls h hl => va_ldcS X.1.1 X.1.2.1 X.1.2.2.2.1 (X.2.2.2.2.2.1 i _ hi) hd (k H locs ls h hl)
theorem J_gets1 (X : jX (jFs adK adV ro) K nL cc Ts own tys) {index : Nat} (hl0 : Cond.fieldLink own index "java/lang/String" "COMPACT_STRINGS" "Z" ∈ Ts) (hd : decode cc pc = .ok (.getstatic index, 3)) (k : J K nL R pu cells slots ws lv (.int (zI 1) :: rest) (pc + 3)) : J K nL R pu cells slots ws lv rest pc := by
  rw [show zI 1 = 1 by decide] at k
  exact fun H locs ls h hl => va_gets X.1.1 X.1.2.1 X.2.2.2.2.2.2.1 h.2.2.1 X.1.2.2.2.1 (X.1.2.2.2.2 _ hl0) (fun _ z => z) hd (k H locs ls h hl)
theorem J_gets2 (X : jX (jFs adK adV ro) K nL cc Ts own tys) {index : Nat} (hl0 : Cond.fieldLink own index "jdk/internal/util/Preconditions" "SIOOBE_FORMATTER" "Ljava/util/function/BiFunction;" ∈ Ts) (hd : decode cc pc = .ok (.getstatic index, 3)) (k : J K nL R pu cells slots ws lv (va_rf ro :: rest) (pc + 3)) : J K nL R pu cells slots ws lv rest pc :=
  fun H locs ls h hl => va_gets X.1.1 X.1.2.1 X.2.2.2.2.2.2.2 h.2.2.1 X.1.2.2.2.1 (X.1.2.2.2.2 _ hl0) (fun _ z => z) hd (k H locs ls h hl)
theorem J_svalue (X : jX (jFs adK adV ro) K nL cc Ts own tys) (i : Nat) (hi : i < 25) {index : Nat} (hl0 : Cond.fieldLink own index "java/lang/String" "value" "[B" ∈ Ts) (hd : decode cc pc = .ok (.getfield index, 3)) (k : J K nL R pu cells slots ws lv (.ref (adV i) :: rest) (pc + 3)) : J K nL R pu cells slots ws lv (.ref (adK i) :: rest) pc :=
  fun H locs ls h hl => vk_getf X.1.1 X.1.2.1 (X.2.2.2.2.1.1 i hi).2.2.1 h.2.2.1 X.1.2.2.2.1 (X.1.2.2.2.2 _ hl0) (fun _ z => z) hd (k H locs ls h hl)
theorem J_scoder (X : jX (jFs adK adV ro) K nL cc Ts own tys) (i : Nat) (hi : i < 25) {index : Nat} (hl0 : Cond.fieldLink own index "java/lang/String" "coder" "B" ∈ Ts) (hd : decode cc pc = .ok (.getfield index, 3)) (k : J K nL R pu cells slots ws lv (.int (zI 0) :: rest) (pc + 3)) : J K nL R pu cells slots ws lv (.ref (adK i) :: rest) pc := by
  rw [zI_0] at k
  exact fun H locs ls h hl => vk_getf X.1.1 X.1.2.1 (X.2.2.2.2.1.1 i hi).2.1 h.2.2.1 X.1.2.2.2.1 (X.1.2.2.2.2 _ hl0) (fun _ z => z) hd (k H locs ls h hl)
theorem J_slen (X : jX (jFs adK adV ro) K nL cc Ts own tys) (i : Nat) (hi : i < 25) (hd : decode cc pc = .ok (.arraylength, 1)) (k : J K nL R pu cells slots ws lv (.int (zI (lenZ i)) :: rest) (pc + 1)) : J K nL R pu cells slots ws lv (.ref (adV i) :: rest) pc :=
  fun H locs ls h hl => va_tlen X.1.1 X.1.2.1 (X.2.2.2.2.1.1 i hi).2.2.2 h.2.2.1 (show Int32.ofNat (lenS.getD i 0) = zI (lenZ i) from Int32.ofInt_eq_ofNat.symm) hd (k H locs ls h hl)
theorem J_sbyte (X : jX (jFs adK adV ro) K nL cc Ts own tys) (i : Nat) (hi : i < 25) {x : Int} (g : jix x (lenS.getD i 0) = true) (hd : decode cc pc = .ok (.baload, 1)) (k : J K nL R pu cells slots ws lv (.int (zI (bytZ i x)) :: rest) (pc + 1)) : J K nL R pu cells slots ws lv (.int (zI x) :: .ref (adV i) :: rest) pc :=
  fun H locs ls h hl => va_tb X.1.1 X.1.2.1 (X.2.2.2.2.1.1 i hi).2.2.2 h.2.2.1 (jix_in g) (v := .int (zI (bytZ i x))) (by show Value.int _ = _; rw [zI_clamp (jix_r g)]; congr 1; exact (zI_of _).symm) hd (k H locs ls h hl)
theorem jrunVs (X : jX (jFs adK adV ro) K nL cc Ts own tys) {pq : Bool} {y : MethodName} {wd wd' : List Cond} {rm : Room} {As : List Value} {wc wc' : va_W} {v : Option Value} {mc ms index mL n i : Nat} {bytes : ByteArray} {ret : Option FieldType} {G : jFt} (hM : CT G pq (jL K) (jD K) tys y wd rm (.ref (adK i) :: As) wc v wc' mc ms) (hGk : jFk G) (hGF : ∀ (A : Nat → Prop) (U : State) (H : Heap), jFs adK adV ro A U H → G A U H)
    (hG : GoodIn Ts (wsV own index "java/lang/String" y wd)) (hw : wd = Cond.code y bytes mL ret :: wd') (hrc : rm.cells = mc) (hrs : rm.slots = ms) (hd : y.cls = "java/lang/String" ∧ y.cls ≠ "java/lang/invoke/MethodHandle" ∧ y.cls ≠ "java/lang/invoke/VarHandle" ∧ (parseMethodDescriptor y.desc).map (fun d => d.parameters.length) = some n) (hR : rm.frames + 1 ≤ R.frames ∧ 8 + (mL + 11) + rm.locals ≤ R.locals)
    (i0 : Nat) (hi : i < 25) (isC : List Nat) (hC : isC.map (fun i => ws[i]?) = wc.map some) (hnC : va_nd isC = true) (hn : As.length = n) (hst : st = As.reverse ++ .ref (adK i) :: rest) (hrest : (rest.map fun v => v.category).sum ≤ 8) (hdg : decode cc pc = .ok (.invokevirtual index, 3)) (hf : cells + mc ≤ R.cells ∧ slots + ms ≤ R.slots) :
    ∀ (H : Heap) (locs : List Loc) (ls : Array Slot), jI K pu ws H locs → lv_has ls nL lv → jRun K R H locs cells slots mc ms (F0 (jM K) pc ls st) rest (jQc pq (jD K) wc v wc' H.size (Value.ref (adK i) :: As).toArray) (fun q => pq = false ∧ va_A wc H.size q) := by
  intro H locs ls h hl
  subst hst
  have hPc := h.1.sub isC (j_fm hC)
  have hDc := h.2.1.sub isC hnC hC
  have hFc := va_free (wc := wc) h.2.1 h.2.2.1 X.2.2.1 isC hC
  have hFF := hGF _ _ _ (X.2.2.2.1.2.2.2 _ _ _ _ hFc (X.2.2.2.1.2.2.1 _ _ _ H h.2.2.1.2.1 X.2.2.2.2))
  exact va_runV X.1 (hM H.size) (cwV n X.1.2.2.2.2 hG hw hrc hrs hd hR) ⟨j_pre hGk, vk_recv X.2.2.2.2.1 hi h.2.2.1, fun U hU hW => ⟨rfl, by rw [hU], by rw [hU]; exact hPc, va_K.moved hW.alike X.2.1, hDc.weaken (fun _ _ _ _ => trivial), by rw [hU]; exact hGk.1 _ _ _ _ hW hFF⟩⟩ rfl hn hl.1 rfl (lv_room hrest) hdg hf
end JSt
