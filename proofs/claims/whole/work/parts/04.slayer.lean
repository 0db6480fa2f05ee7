/-! STRING CONSTANTS AND A STATIC TABLE: where they lie, what they hold, as facts on cells that nobody writes. -/
def sJ : List (String × Nat × String) := [("CekMachine", 38, "no such kind or arg"), ("CekMachine", 57, "too few TERMS or too many NODES"), ("CekMachine", 64, "no such number of bytes"), ("CekMachine", 66, "too many NODES"), ("CekMachine", 82, "no TERM that is CLOSED"), ("CekMachine", 84, "no such budget"), ("CekMachine", 102, "no result"), ("CekMachine", 144, "no INTEGER of DATA there")]
def lenS : List Nat := [19, 31, 23, 14, 22, 14, 9, 24]
def bytS : List (List Int32) := [[110, 111, 32, 115, 117, 99, 104, 32, 107, 105, 110, 100, 32, 111, 114, 32, 97, 114, 103], [116, 111, 111, 32, 102, 101, 119, 32, 84, 69, 82, 77, 83, 32, 111, 114, 32, 116, 111, 111, 32, 109, 97, 110, 121, 32, 78, 79, 68, 69, 83], [110, 111, 32, 115, 117, 99, 104, 32, 110, 117, 109, 98, 101, 114, 32, 111, 102, 32, 98, 121, 116, 101, 115], [116, 111, 111, 32, 109, 97, 110, 121, 32, 78, 79, 68, 69, 83], [110, 111, 32, 84, 69, 82, 77, 32, 116, 104, 97, 116, 32, 105, 115, 32, 67, 76, 79, 83, 69, 68], [110, 111, 32, 115, 117, 99, 104, 32, 98, 117, 100, 103, 101, 116], [110, 111, 32, 114, 101, 115, 117, 108, 116], [110, 111, 32, 73, 78, 84, 69, 71, 69, 82, 32, 111, 102, 32, 68, 65, 84, 65, 32, 116, 104, 101, 114, 101]]
def takS : List Int32 := [0, 0, -1, 0, 0, -1, 0, 0, -1, 0, 0, -1, 0, 0, -1, 0, 0, -1, 0, 0, -1, 0, 0, -1, 0, 0, -1, 0, 0, -1, 1, 1, -1, 1, -1, -1, 1, 0, -1, 0, 0, 1, 1, 1, -1, 1, 1, -1, 2, 8, 8, 4, 4, -1, 4, -1, -1, 9, -1, -1, 9, -1, -1, 0, 11, -1, 0, -1, -1, 1, -1, -1, 12, -1, -1, 13, -1, -1, 11, -1, -1, 11, -1, -1, 4, 11, -1, 11, -1, -1, 11, -1, -1, 10, -1, -1]
def j_w32 (x : Int) : Int := (zI x).toInt
def takZ (x : Int) : Int := (takS.getD x.toNat 0).toInt
def jFs (adK adV : Nat → Nat) (ro : Nat) : jFt := fun A U H => vk_S 8 lenS bytS adK adV A U H ∧ (∀ (i : Nat) (q : String × Nat × String), sJ[i]? = some q → vk_R q.1 q.2.1 q.2.2 (adK i) U) ∧ va_Z "CekMachine$Builtins" "TAKES" "[I" (.ref ro) A U H ∧ va_T .int ro 96 (fun j => .int (takS.getD j 0)) A U H
theorem jFs_k {adK adV : Nat → Nat} {ro : Nat} : jFk (jFs adK adV ro) := by
  refine ⟨fun A u U H hW h => ⟨h.1.moved hW.alike, fun i q hq => (h.2.1 i q hq).warm hW, h.2.2.1.moved hW.alike, h.2.2.2.moved hW.alike⟩, fun A u U H e h => ?_, fun A U H H1 hq h => ⟨h.1.kept hq, h.2.1, h.2.2.1.kept hq, h.2.2.2.kept hq⟩, fun A B U H hAB h => ⟨h.1.narrow hAB, h.2.1, h.2.2.1.narrow hAB, h.2.2.2.narrow hAB⟩⟩
  have al : u.vm.Alike U.vm := e ▸ Vm.Alike.refl u.vm
  exact ⟨h.1.moved al, fun i q hq => (h.2.1 i q hq).same e.symm, h.2.2.1.moved al, h.2.2.2.moved al⟩
section JSt
variable {adK adV : Nat → Nat} {ro : Nat} {F : jFt} {K : jK} {nL : Nat} {R : Room} {pu : Bool} {cells slots : Nat} {ws : va_W} {lv : List (Nat × Value)} {st rest : List Value} {pc : Nat} {cc : ByteArray} {Ts : List Cond} {own : String} {tys : List (ClassId × FieldType)}
theorem J_ldcS (X : jX (jFs adK adV ro) K nL cc Ts own tys) (i : Nat) {index : Nat} {tx : String} (hi : sJ[i]? = some (own, index, tx)) (hd : decode cc pc = .ok (.ldc index, 2)) (k : J K nL R pu cells slots ws lv (.ref (adK i) :: rest) (pc + 2)) : J K nL R pu cells slots ws lv rest pc :=
  fun H locs ls h hl => va_ldcS X.1.1 X.1.2.1 X.1.2.2.2.1 (X.2.2.2.2.2.1 i _ hi) hd (k H locs ls h hl)
theorem J_gett (X : jX (jFs adK adV ro) K nL cc Ts own tys) {index : Nat} (hl0 : Cond.fieldLink own index "CekMachine$Builtins" "TAKES" "[I" ∈ Ts) (hd : decode cc pc = .ok (.getstatic index, 3)) (k : J K nL R pu cells slots ws lv (.ref ro :: rest) (pc + 3)) : J K nL R pu cells slots ws lv rest pc :=
  fun H locs ls h hl => va_gets X.1.1 X.1.2.1 X.2.2.2.2.2.2.1 h.2.2.1 X.1.2.2.2.1 (X.1.2.2.2.2 _ hl0) (fun _ z => z) hd (k H locs ls h hl)
theorem J_tlen (X : jX (jFs adK adV ro) K nL cc Ts own tys) (hd : decode cc pc = .ok (.arraylength, 1)) (k : J K nL R pu cells slots ws lv (.int (zI 96) :: rest) (pc + 1)) : J K nL R pu cells slots ws lv (.ref ro :: rest) pc :=
  fun H locs ls h hl => va_tlen X.1.1 X.1.2.1 X.2.2.2.2.2.2.2 h.2.2.1 (show Int32.ofNat 96 = zI 96 by decide) hd (k H locs ls h hl)
theorem J_tload (X : jX (jFs adK adV ro) K nL cc Ts own tys) {x : Int} (g : jix x 96 = true) (hd : decode cc pc = .ok (.iaload, 1)) (k : J K nL R pu cells slots ws lv (.int (zI (takZ x)) :: rest) (pc + 1)) : J K nL R pu cells slots ws lv (.int (zI x) :: .ref ro :: rest) pc :=
  fun H locs ls h hl => va_ti X.1.1 X.1.2.1 X.2.2.2.2.2.2.2 h.2.2.1 (jix_in g) (v := .int (zI (takZ x))) (by show Value.int _ = _; rw [zI_clamp (jix_r g)]; congr 1; exact (zI_of _).symm) hd (k H locs ls h hl)
/-- an int read from a row of which nothing is known is still an int -/
theorem J_w32 {x : Int} (k : J K nL R pu cells slots ws lv (.int (zI (j_w32 x)) :: rest) pc) : J K nL R pu cells slots ws lv (.int (zI x) :: rest) pc := by
  rw [show zI (j_w32 x) = zI x from zI_of _] at k
  exact k
end JSt
