/-! A LAYER OF MY OWN OVER THE KIT: a walk's place as lists (world, locals, stack), one row an instruction; the machine's numbers are images of integers; a method's contract has one answer and one world behind it. -/
def zI (x : Int) : Int32 := Int32.ofInt x
def zL (x : Int) : Int64 := Int64.ofInt x
/-- an int's range, a long's -/
def rI (x : Int) : Bool := decide (-2147483648 ≤ x ∧ x ≤ 2147483647)
def rL (x : Int) : Bool := decide (-9223372036854775808 ≤ x ∧ x ≤ 9223372036854775807)
def zA (f : Int → Int) : Nat → Int32 := fun k => zI (f k)
def zB (f : Int → Int) : Nat → Int64 := fun k => zL (f k)
def upZ (f : Int → Int) (i v : Int) : Int → Int := fun k => if k = i then v else f k
def cpZ (f g : Int → Int) (sp dp n : Int) : Int → Int := fun k => if dp ≤ k ∧ k < dp + n then f (sp + (k - dp)) else g k
theorem rI_iff {x : Int} : rI x = true ↔ -2147483648 ≤ x ∧ x ≤ 2147483647 := decide_eq_true_iff
theorem rL_iff {x : Int} : rL x = true ↔ -9223372036854775808 ≤ x ∧ x ≤ 9223372036854775807 := decide_eq_true_iff
theorem zI_toInt {x : Int} (h : rI x = true) : (zI x).toInt = x := by
  have h1 := rI_iff.mp h
  exact Int32.toInt_ofInt_of_le (by omega) (by omega)
theorem zL_toInt {x : Int} (h : rL x = true) : (zL x).toInt = x := by
  have h1 := rL_iff.mp h
  exact Int64.toInt_ofInt_of_le (by omega) (by omega)
theorem zI_of (x : Int32) : zI x.toInt = x := by show Int32.ofInt x.toInt = x; exact Int32.ofInt_toInt x
theorem zL_of (x : Int64) : zL x.toInt = x := by show Int64.ofInt x.toInt = x; exact Int64.ofInt_toInt x
theorem rI_of (x : Int32) : rI x.toInt = true := rI_iff.mpr ⟨by have := Int32.le_toInt x; omega, by have := Int32.toInt_lt x; omega⟩
theorem rL_of (x : Int64) : rL x.toInt = true := rL_iff.mpr ⟨by have := Int64.le_toInt x; omega, by have := Int64.toInt_lt x; omega⟩
theorem zI_add (x y : Int) : zI x + zI y = zI (x + y) := (Int32.ofInt_add x y).symm
theorem zI_sub (x y : Int) : zI x - zI y = zI (x - y) := (Int32.ofInt_sub x y).symm
theorem zI_mul (x y : Int) : zI x * zI y = zI (x * y) := (Int32.ofInt_mul x y).symm
theorem zL_add (x y : Int) : zL x + zL y = zL (x + y) := (Int64.ofInt_add x y).symm
theorem zL_sub (x y : Int) : zL x - zL y = zL (x - y) := (Int64.ofInt_sub x y).symm
theorem zL_mul (x y : Int) : zL x * zL y = zL (x * y) := (Int64.ofInt_mul x y).symm
theorem zI_eq {x y : Int} (hx : rI x = true) (hy : rI y = true) : zI x = zI y ↔ x = y := ⟨fun h => by have := congrArg Int32.toInt h; rwa [zI_toInt hx, zI_toInt hy] at this, fun h => by rw [h]⟩
theorem zI_lt {x y : Int} (hx : rI x = true) (hy : rI y = true) : zI x < zI y ↔ x < y := by rw [Int32.lt_iff_toInt_lt, zI_toInt hx, zI_toInt hy]
theorem zI_le {x y : Int} (hx : rI x = true) (hy : rI y = true) : zI x ≤ zI y ↔ x ≤ y := by rw [Int32.le_iff_toInt_le, zI_toInt hx, zI_toInt hy]
theorem zL_eq {x y : Int} (hx : rL x = true) (hy : rL y = true) : zL x = zL y ↔ x = y := ⟨fun h => by have := congrArg Int64.toInt h; rwa [zL_toInt hx, zL_toInt hy] at this, fun h => by rw [h]⟩
theorem zL_lt {x y : Int} (hx : rL x = true) (hy : rL y = true) : zL x < zL y ↔ x < y := by rw [Int64.lt_iff_toInt_lt, zL_toInt hx, zL_toInt hy]
theorem zI_0 : zI 0 = 0 := by decide
theorem zL_i {x : Int} : (zL x).toInt32 = zI x := Int64.toInt32_ofInt
theorem zI_l {x : Int} (h : rI x = true) : (zI x).toInt64 = zL x := by
  apply Int64.toInt_inj.mp
  have h1 := rI_iff.mp h
  rw [Int32.toInt_toInt64, zI_toInt h, zL_toInt (rL_iff.mpr ⟨by omega, by omega⟩)]
theorem zI_clamp {x : Int} (h : rI x = true) : (zI x).toNatClampNeg = x.toNat := by
  show (zI x).toInt.toNat = x.toNat
  rw [zI_toInt h]
theorem zI_div {x y : Int} (hx : rI x = true) (hy : rI y = true) : zI x / zI y = zI (x.tdiv y) := by
  apply Int32.toInt_inj.mp
  have e : (zI (x.tdiv y)).toInt = (x.tdiv y).bmod (2 ^ 32) := Int32.toInt_ofInt
  rw [e, Int32.toInt_div, zI_toInt hx, zI_toInt hy]
theorem zL_div {x y : Int} (hx : rL x = true) (hy : rL y = true) : zL x / zL y = zL (x.tdiv y) := by
  apply Int64.toInt_inj.mp
  have e : (zL (x.tdiv y)).toInt = (x.tdiv y).bmod (2 ^ 64) := Int64.toInt_ofInt
  rw [e, Int64.toInt_div, zL_toInt hx, zL_toInt hy]
/-- a place in an array -/
def jix (i : Int) (n : Nat) : Bool := decide (0 ≤ i ∧ i < n ∧ n < 2147483648)
theorem jix_iff {i : Int} {n : Nat} : jix i n = true ↔ 0 ≤ i ∧ i < n ∧ n < 2147483648 := decide_eq_true_iff
theorem jix_r {i : Int} {n : Nat} (h : jix i n = true) : rI i = true := by
  have := jix_iff.mp h
  exact rI_iff.mpr ⟨by omega, by omega⟩
theorem jix_in {i : Int} {n : Nat} (h : jix i n = true) : vp_in (zI i) n := by
  have h1 := jix_iff.mp h
  rw [vp_in_iff, zI_toInt (jix_r h)]
  omega
theorem zA_at {f : Int → Int} {i : Int} {n : Nat} (h : jix i n = true) : zA f (zI i).toNatClampNeg = zI (f i) := by
  have h1 := jix_iff.mp h
  rw [zI_clamp (jix_r h)]
  show zI (f (i.toNat : Int)) = zI (f i)
  rw [show (i.toNat : Int) = i by omega]
theorem zB_at {f : Int → Int} {i : Int} {n : Nat} (h : jix i n = true) : zB f (zI i).toNatClampNeg = zL (f i) := by
  have h1 := jix_iff.mp h
  rw [zI_clamp (jix_r h)]
  show zL (f (i.toNat : Int)) = zL (f i)
  rw [show (i.toNat : Int) = i by omega]
theorem zA_up {f : Int → Int} {i v : Int} {n : Nat} (h : jix i n = true) : upd (zA f) (zI i).toNatClampNeg (zI v) = zA (upZ f i v) := by
  have h1 := jix_iff.mp h
  funext k
  rw [zI_clamp (jix_r h)]
  by_cases hk : k = i.toNat
  · subst hk
    simp [upd, zA, upZ, show (i.toNat : Int) = i by omega]
  · have hk2 : ¬ (k : Int) = i := by omega
    simp [upd, zA, upZ, hk, hk2]
theorem zB_up {f : Int → Int} {i v : Int} {n : Nat} (h : jix i n = true) : vp_updL (zB f) (zI i).toNatClampNeg (zL v) = zB (upZ f i v) := by
  have h1 := jix_iff.mp h
  funext k
  rw [zI_clamp (jix_r h)]
  by_cases hk : k = i.toNat
  · subst hk
    simp [vp_updL, zB, upZ, show (i.toNat : Int) = i by omega]
  · have hk2 : ¬ (k : Int) = i := by omega
    simp [vp_updL, zB, upZ, hk, hk2]
/-- a stretch may be copied -/
def jcp (sp dp n : Int) (a b : Nat) : Bool := decide (0 ≤ sp ∧ 0 ≤ dp ∧ 0 ≤ n ∧ sp + n ≤ a ∧ dp + n ≤ b ∧ a < 2147483648 ∧ b < 2147483648)
theorem jcp_iff {sp dp n : Int} {a b : Nat} : jcp sp dp n a b = true ↔ 0 ≤ sp ∧ 0 ≤ dp ∧ 0 ≤ n ∧ sp + n ≤ a ∧ dp + n ≤ b ∧ a < 2147483648 ∧ b < 2147483648 := decide_eq_true_iff
theorem jcp_use {sp dp n : Int} {a b : Nat} (h : jcp sp dp n a b = true) : ¬ zI sp < 0 ∧ ¬ zI dp < 0 ∧ ¬ zI n < 0 ∧ (zI sp).toNatClampNeg + (zI n).toNatClampNeg ≤ a ∧ (zI dp).toNatClampNeg + (zI n).toNatClampNeg ≤ b ∧ (zI sp).toNatClampNeg = sp.toNat ∧ (zI dp).toNatClampNeg = dp.toNat ∧ (zI n).toNatClampNeg = n.toNat := by
  obtain ⟨h1, h2, h3, h4, h5, h6, h7⟩ := jcp_iff.mp h
  have r1 : rI sp = true := rI_iff.mpr ⟨by omega, by omega⟩
  have r2 : rI dp = true := rI_iff.mpr ⟨by omega, by omega⟩
  have r3 : rI n = true := rI_iff.mpr ⟨by omega, by omega⟩
  have r0 : rI 0 = true := by decide
  rw [zI_clamp r1, zI_clamp r2, zI_clamp r3, ← zI_0, zI_lt r1 r0, zI_lt r2 r0, zI_lt r3 r0]
  refine ⟨by omega, by omega, by omega, by omega, by omega, rfl, rfl, rfl⟩
theorem zA_cp {f g : Int → Int} {sp dp n : Int} (h1 : 0 ≤ sp) (h2 : 0 ≤ dp) (h3 : 0 ≤ n) : va_cpy (zA f) (zA g) sp.toNat dp.toNat n.toNat = zA (cpZ f g sp dp n) := by
  funext k
  by_cases hk : dp.toNat ≤ k ∧ k < dp.toNat + n.toNat
  · have hk2 : dp ≤ (k : Int) ∧ (k : Int) < dp + n := by omega
    simp only [va_cpy, zA, cpZ, if_pos hk, if_pos hk2]
    rw [show ((sp.toNat + (k - dp.toNat) : Nat) : Int) = sp + ((k : Int) - dp) by omega]
  · have hk2 : ¬ (dp ≤ (k : Int) ∧ (k : Int) < dp + n) := by omega
    simp only [va_cpy, zA, cpZ, if_neg hk, if_neg hk2]
theorem zB_cp {f g : Int → Int} {sp dp n : Int} (h1 : 0 ≤ sp) (h2 : 0 ≤ dp) (h3 : 0 ≤ n) : va_cpy (zB f) (zB g) sp.toNat dp.toNat n.toNat = zB (cpZ f g sp dp n) := by
  funext k
  by_cases hk : dp.toNat ≤ k ∧ k < dp.toNat + n.toNat
  · have hk2 : dp ≤ (k : Int) ∧ (k : Int) < dp + n := by omega
    simp only [va_cpy, zB, cpZ, if_pos hk, if_pos hk2]
    rw [show ((sp.toNat + (k - dp.toNat) : Nat) : Int) = sp + ((k : Int) - dp) by omega]
  · have hk2 : ¬ (dp ≤ (k : Int) ∧ (k : Int) < dp + n) := by omega
    simp only [va_cpy, zB, cpZ, if_neg hk, if_neg hk2]
/-- a byte: what a cell of a byte array keeps of an int -/
def j_b8 (x : Int) : Int := ((zI x).toInt8.toInt32).toInt
def j_and (x y : Int) : Int := (zI x &&& zI y).toInt
def j_ushr (x y : Int) : Int := ((zL x).toUInt64 >>> ((zI y).toInt64.toUInt64 &&& Int64.toUInt64 63)).toInt64.toInt
def j_shr (x y : Int) : Int := (zL x >>> ((zI y).toInt64 &&& 63)).toInt
def j_lxor (x y : Int) : Int := (zL x ^^^ zL y).toInt
/-- a long product as it wraps -/
def j_w64 (x : Int) : Int := (zL x).toInt
theorem j_nar (x : Int) : vp_nar .byte (zI x) = zI (j_b8 x) := by rw [vp_nar_byte]; exact (zI_of _).symm
theorem j_bool {r : Int} (h : r = 0 ∨ r = 1) : narrow .boolean (.int (zI r)) = .int (zI r) := by rcases h with rfl | rfl <;> rfl

def jr2 (x y : Int) : Bool := rI x && rI y
def jl2 (x y : Int) : Bool := rL x && rL y
def jdv (x y : Int) : Bool := rI x && rI y && decide (¬ y = 0)
def jdl (x y : Int) : Bool := rL x && rL y && decide (¬ y = 0)
theorem jr2_use {x y : Int} (h : jr2 x y = true) : rI x = true ∧ rI y = true := by simpa [jr2] using h
theorem jl2_use {x y : Int} (h : jl2 x y = true) : rL x = true ∧ rL y = true := by simpa [jl2] using h
theorem jdv_use {x y : Int} (h : jdv x y = true) : rI x = true ∧ rI y = true ∧ ¬ y = 0 := by simpa [jdv, and_assoc] using h
theorem jdl_use {x y : Int} (h : jdl x y = true) : rL x = true ∧ rL y = true ∧ ¬ y = 0 := by simpa [jdl, and_assoc] using h
theorem zI_ne0 {y : Int} (hy : rI y = true) (h : ¬ y = 0) : ¬ zI y = 0 := fun q => h ((zI_eq hy (by decide)).mp (q.trans zI_0.symm))
theorem zL_0 : zL 0 = 0 := by decide
theorem zL_ne0 {y : Int} (hy : rL y = true) (h : ¬ y = 0) : ¬ zL y = 0 := fun q => h ((zL_eq hy (by decide)).mp (q.trans zL_0.symm))
theorem lg_v {x y : Int} (hx : rL x = true) (hy : rL y = true) : lg_cmp (zL x) (zL y) = if y < x then 1 else if x = y then 0 else -1 := by
  unfold lg_cmp
  show (if zL y < zL x then (1 : Int32) else if zL x = zL y then 0 else -1) = _
  simp only [zL_lt hy hx, zL_eq hx hy]
theorem lg_eq {x y : Int} (hx : rL x = true) (hy : rL y = true) : lg_cmp (zL x) (zL y) = 0 ↔ x = y := by
  rw [lg_v hx hy]
  by_cases a : y < x
  · rw [if_pos a]; constructor <;> intro h <;> first | omega | exact absurd h (by decide) | decide
  · rw [if_neg a]
    by_cases b : x = y
    · rw [if_pos b]; constructor <;> intro h <;> first | omega | exact absurd h (by decide) | decide
    · rw [if_neg b]; constructor <;> intro h <;> first | omega | exact absurd h (by decide) | decide
theorem lg_lt {x y : Int} (hx : rL x = true) (hy : rL y = true) : lg_cmp (zL x) (zL y) < 0 ↔ x < y := by
  rw [lg_v hx hy]
  by_cases a : y < x
  · rw [if_pos a]; constructor <;> intro h <;> first | omega | exact absurd h (by decide) | decide
  · rw [if_neg a]
    by_cases b : x = y
    · rw [if_pos b]; constructor <;> intro h <;> first | omega | exact absurd h (by decide) | decide
    · rw [if_neg b]; constructor <;> intro h <;> first | omega | exact absurd h (by decide) | decide
theorem lg_ge {x y : Int} (hx : rL x = true) (hy : rL y = true) : 0 ≤ lg_cmp (zL x) (zL y) ↔ y ≤ x := by
  rw [lg_v hx hy]
  by_cases a : y < x
  · rw [if_pos a]; constructor <;> intro h <;> first | omega | exact absurd h (by decide) | decide
  · rw [if_neg a]
    by_cases b : x = y
    · rw [if_pos b]; constructor <;> intro h <;> first | omega | exact absurd h (by decide) | decide
    · rw [if_neg b]; constructor <;> intro h <;> first | omega | exact absurd h (by decide) | decide
theorem lg_gt {x y : Int} (hx : rL x = true) (hy : rL y = true) : 0 < lg_cmp (zL x) (zL y) ↔ y < x := by
  rw [lg_v hx hy]
  by_cases a : y < x
  · rw [if_pos a]; constructor <;> intro h <;> first | omega | exact absurd h (by decide) | decide
  · rw [if_neg a]
    by_cases b : x = y
    · rw [if_pos b]; constructor <;> intro h <;> first | omega | exact absurd h (by decide) | decide
    · rw [if_neg b]; constructor <;> intro h <;> first | omega | exact absurd h (by decide) | decide
theorem lg_le {x y : Int} (hx : rL x = true) (hy : rL y = true) : lg_cmp (zL x) (zL y) ≤ 0 ↔ x ≤ y := by
  rw [lg_v hx hy]
  by_cases a : y < x
  · rw [if_pos a]; constructor <;> intro h <;> first | omega | exact absurd h (by decide) | decide
  · rw [if_neg a]
    by_cases b : x = y
    · rw [if_pos b]; constructor <;> intro h <;> first | omega | exact absurd h (by decide) | decide
    · rw [if_neg b]; constructor <;> intro h <;> first | omega | exact absurd h (by decide) | decide
/-- the fixed things of a walk -/
abbrev jK : Type := (Program × Launch × Env × State × MethodId) × (Array Value × List Frame × Method × Code) × (va_G × (Nat → Prop) × (State → Prop))
def jP (K : jK) : Program := K.1.1
def jL (K : jK) : Launch := K.1.2.1
def jEv (K : jK) : Env := K.1.2.2.1
def jS (K : jK) : State := K.1.2.2.2.1
def jM (K : jK) : MethodId := K.1.2.2.2.2
def jA (K : jK) : Array Value := K.2.1.1
def jB (K : jK) : List Frame := K.2.1.2.1
def jMt (K : jK) : Method := K.2.1.2.2.1
def jC (K : jK) : Code := K.2.1.2.2.2
def jD (K : jK) : va_G := K.2.2.1
def jAr (K : jK) : Nat → Prop := K.2.2.2.1
def jQ (K : jK) : State → Prop := K.2.2.2.2
def jW (K : jK) (R : Room) (H : Heap) (locs : List Loc) (cells slots : Nat) (g : JFrame) : Prop := W (jP K) (jL K) (jEv K) R (jS K) (jM K) (jA K) (jB K) (jMt K) (jC K) H locs cells slots (jQ K) g
/-- what a walk knows of the heap; a walk that is 'pu' has written nothing -/
def jI (K : jK) (pu : Bool) (ws : va_W) (H : Heap) (locs : List Loc) : Prop := va_P (jD K) vwCl ws H ∧ va_D (jAr K) ws ∧ va_S (jAr K) (jS K).heap H locs ∧ (pu = true → H = (jS K).heap ∧ locs = [])
def J (K : jK) (nL : Nat) (R : Room) (pu : Bool) (cells slots : Nat) (ws : va_W) (lv : List (Nat × Value)) (st : List Value) (pc : Nat) : Prop :=
  ∀ (H : Heap) (locs : List Loc) (ls : Array Slot), jI K pu ws H locs → lv_has ls nL lv → jW K R H locs cells slots (F0 (jM K) pc ls st)
/-- facts on the tables, and on cells that nobody writes: they hold under warmer tables, in a later heap, for fewer cells that may be written -/
abbrev jFt : Type := (Nat → Prop) → State → Heap → Prop
def jFk (F : jFt) : Prop := (∀ (A : Nat → Prop) (u U : State) (H : Heap), u.WarmedH U.vm → F A u H → F A U H) ∧ (∀ (A : Nat → Prop) (u U : State) (H : Heap), u.vm = U.vm → F A u H → F A U H) ∧ (∀ (A : Nat → Prop) (U : State) (H H1 : Heap), (∀ a : Nat, a < H.size → ¬ A a → H1[a]? = H[a]?) → F A U H → F A U H1) ∧ ∀ (A B : Nat → Prop) (U : State) (H : Heap), (∀ q, B q → A q) → F A U H → F B U H
def jF0 : jFt := fun _ _ _ => True
theorem jF0_k : jFk jF0 := ⟨fun _ _ _ _ _ h => h, fun _ _ _ _ _ h => h, fun _ _ _ _ _ h => h, fun _ _ _ _ _ h => h⟩
/-- the facts that do not move -/
def jX (F : jFt) (K : jK) (nL : Nat) (cc : ByteArray) (Ts : List Cond) (own : String) (tys : List (ClassId × FieldType)) : Prop :=
  CallFix (jP K) (jM K) (jC K) cc nL (jS K) (jA K) Ts own ∧ va_K (jD K) vwCl tys (jS K) ∧ (∀ q : Nat, (jS K).heap.size ≤ q → jAr K q) ∧ jFk F ∧ F (jAr K) (jS K) (jS K).heap
section JL
variable {F : jFt} {K : jK} {nL : Nat} {R : Room} {pu : Bool} {cells slots : Nat} {ws : va_W} {lv : List (Nat × Value)} {rest : List Value} {pc : Nat} {cc : ByteArray} {Ts : List Cond} {own : String} {tys : List (ClassId × FieldType)}
theorem J_iconst (X : jX F K nL cc Ts own tys) {n : Int} (hd : decode cc pc = .ok (.iconst n, 1)) (k : J K nL R pu cells slots ws lv (.int (zI n) :: rest) (pc + 1)) : J K nL R pu cells slots ws lv (rest) pc :=
  fun H locs ls h hl => lv_iconst X.1.1 X.1.2.1 hd rfl (k H locs ls h hl)
theorem J_bipush (X : jX F K nL cc Ts own tys) {n : Int} (hd : decode cc pc = .ok (.bipush n, 2)) (hv : (Int8.ofInt n).toInt32 = zI n) (k : J K nL R pu cells slots ws lv (.int (zI n) :: rest) (pc + 2)) : J K nL R pu cells slots ws lv (rest) pc :=
  fun H locs ls h hl => lv_bipush X.1.1 X.1.2.1 hd hv (k H locs ls h hl)
theorem J_sipush (X : jX F K nL cc Ts own tys) {n : Int} (hd : decode cc pc = .ok (.sipush n, 3)) (hv : (Int16.ofInt n).toInt32 = zI n) (k : J K nL R pu cells slots ws lv (.int (zI n) :: rest) (pc + 3)) : J K nL R pu cells slots ws lv (rest) pc :=
  fun H locs ls h hl => lv_sipush X.1.1 X.1.2.1 hd hv (k H locs ls h hl)
theorem J_lconst (X : jX F K nL cc Ts own tys) {n : Fin 2} {v : Int} (hd : decode cc pc = .ok (.lconst n, 1)) (hv : Int64.ofNat (n : Nat) = zL v) (k : J K nL R pu cells slots ws lv (.long (zL v) :: rest) (pc + 1)) : J K nL R pu cells slots ws lv (rest) pc :=
  fun H locs ls h hl => lv_lconst X.1.1 X.1.2.1 hd hv (k H locs ls h hl)
theorem J_ldc (X : jX F K nL cc Ts own tys) {index : Nat} {v : Int32} {n : Int} (hc : Jvm.Cond.constant own index v ∈ Ts) (hv : v = zI n) (hd : decode cc pc = .ok (.ldc index, 2)) (k : J K nL R pu cells slots ws lv (.int (zI n) :: rest) (pc + 2)) : J K nL R pu cells slots ws lv rest pc := by
  subst hv
  exact fun H locs ls h hl => lv_ldc X.1.1 X.1.2.1 X.1.2.2.2.1 (X.1.2.2.2.2 _ hc) hd (k H locs ls h hl)
theorem J_ldc2 (X : jX F K nL cc Ts own tys) {index : Nat} {v : Int64} {n : Int} (hc : Jvm.Cond.constantLong own index v ∈ Ts) (hv : v = zL n) (hd : decode cc pc = .ok (.ldc2_w index, 3)) (k : J K nL R pu cells slots ws lv (.long (zL n) :: rest) (pc + 3)) : J K nL R pu cells slots ws lv rest pc := by
  subst hv
  exact fun H locs ls h hl => lv_ldc2 X.1.1 X.1.2.1 X.1.2.2.2.1 (X.1.2.2.2.2 _ hc) hd (k H locs ls h hl)
theorem J_iload_n (X : jX F K nL cc Ts own tys) {n : Fin 4} {i : Nat} {x : Int32} (hd : decode cc pc = .ok (.iload_n n, 1)) (hi : (n : Nat) = i) (q : Nat) (hq : lv[q]? = some (i, .int x)) (k : J K nL R pu cells slots ws lv (.int x :: rest) (pc + 1)) : J K nL R pu cells slots ws lv rest pc :=
  fun H locs ls h hl => lv_iload_n X.1.1 X.1.2.1 hd hi (lv_at hl q hq) (k H locs ls h hl)
theorem J_iload (X : jX F K nL cc Ts own tys) {i : Nat} {x : Int32} (hd : decode cc pc = .ok (.iload i, 2)) (q : Nat) (hq : lv[q]? = some (i, .int x)) (k : J K nL R pu cells slots ws lv (.int x :: rest) (pc + 2)) : J K nL R pu cells slots ws lv rest pc :=
  fun H locs ls h hl => lv_iload X.1.1 X.1.2.1 hd (lv_at hl q hq) (k H locs ls h hl)
theorem J_istore_n (X : jX F K nL cc Ts own tys) {n : Fin 4} {i : Nat} {x : Int32} {lv' : List (Nat × Value)} (hd : decode cc pc = .ok (.istore_n n, 1)) (hi : (n : Nat) = i) (hn : i < nL) (hl' : (i, Value.int x) :: lv.filter (fun q => !(q.1 == i) && !(q.1 + 1 == i && q.2.category == 2)) = lv') (k : J K nL R pu cells slots ws lv' rest (pc + 1)) : J K nL R pu cells slots ws lv (.int x :: rest) pc :=
  fun H locs _ h hl => lv_istore_n X.1.1 X.1.2.1 hd hi hl hn hl' (fun ls hl => k H locs ls h hl)
theorem J_istore (X : jX F K nL cc Ts own tys) {i : Nat} {x : Int32} {lv' : List (Nat × Value)} (hd : decode cc pc = .ok (.istore i, 2)) (hn : i < nL) (hl' : (i, Value.int x) :: lv.filter (fun q => !(q.1 == i) && !(q.1 + 1 == i && q.2.category == 2)) = lv') (k : J K nL R pu cells slots ws lv' rest (pc + 2)) : J K nL R pu cells slots ws lv (.int x :: rest) pc :=
  fun H locs _ h hl => lv_istore X.1.1 X.1.2.1 hd hl hn hl' (fun ls hl => k H locs ls h hl)
theorem J_lload_n (X : jX F K nL cc Ts own tys) {n : Fin 4} {i : Nat} {x : Int64} (hd : decode cc pc = .ok (.lload_n n, 1)) (hi : (n : Nat) = i) (q : Nat) (hq : lv[q]? = some (i, .long x)) (k : J K nL R pu cells slots ws lv (.long x :: rest) (pc + 1)) : J K nL R pu cells slots ws lv rest pc :=
  fun H locs ls h hl => lv_lload_n X.1.1 X.1.2.1 hd hi (lv_at hl q hq) (k H locs ls h hl)
theorem J_lload (X : jX F K nL cc Ts own tys) {i : Nat} {x : Int64} (hd : decode cc pc = .ok (.lload i, 2)) (q : Nat) (hq : lv[q]? = some (i, .long x)) (k : J K nL R pu cells slots ws lv (.long x :: rest) (pc + 2)) : J K nL R pu cells slots ws lv rest pc :=
  fun H locs ls h hl => lv_lload X.1.1 X.1.2.1 hd (lv_at hl q hq) (k H locs ls h hl)
theorem J_lstore_n (X : jX F K nL cc Ts own tys) {n : Fin 4} {i : Nat} {x : Int64} {lv' : List (Nat × Value)} (hd : decode cc pc = .ok (.lstore_n n, 1)) (hi : (n : Nat) = i) (hn : i + 1 < nL) (hl' : (i, Value.long x) :: lv.filter (fun q => !(q.1 == i) && (!(q.1 == i + 1) && !(q.1 + 1 == i && q.2.category == 2))) = lv') (k : J K nL R pu cells slots ws lv' rest (pc + 1)) : J K nL R pu cells slots ws lv (.long x :: rest) pc :=
  fun H locs _ h hl => lv_lstore_n X.1.1 X.1.2.1 hd hi hl hn hl' (fun ls hl => k H locs ls h hl)
theorem J_lstore (X : jX F K nL cc Ts own tys) {i : Nat} {x : Int64} {lv' : List (Nat × Value)} (hd : decode cc pc = .ok (.lstore i, 2)) (hn : i + 1 < nL) (hl' : (i, Value.long x) :: lv.filter (fun q => !(q.1 == i) && (!(q.1 == i + 1) && !(q.1 + 1 == i && q.2.category == 2))) = lv') (k : J K nL R pu cells slots ws lv' rest (pc + 2)) : J K nL R pu cells slots ws lv (.long x :: rest) pc :=
  fun H locs _ h hl => lv_lstore X.1.1 X.1.2.1 hd hl hn hl' (fun ls hl => k H locs ls h hl)
theorem J_aload_n (X : jX F K nL cc Ts own tys) {n : Fin 4} {i : Nat} {x : Nat} (hd : decode cc pc = .ok (.aload_n n, 1)) (hi : (n : Nat) = i) (q : Nat) (hq : lv[q]? = some (i, .ref x)) (k : J K nL R pu cells slots ws lv (.ref x :: rest) (pc + 1)) : J K nL R pu cells slots ws lv rest pc :=
  fun H locs ls h hl => lv_aload_n X.1.1 X.1.2.1 hd hi (lv_at hl q hq) (k H locs ls h hl)
theorem J_aload (X : jX F K nL cc Ts own tys) {i : Nat} {x : Nat} (hd : decode cc pc = .ok (.aload i, 2)) (q : Nat) (hq : lv[q]? = some (i, .ref x)) (k : J K nL R pu cells slots ws lv (.ref x :: rest) (pc + 2)) : J K nL R pu cells slots ws lv rest pc :=
  fun H locs ls h hl => lv_aload X.1.1 X.1.2.1 hd (lv_at hl q hq) (k H locs ls h hl)
theorem J_astore_n (X : jX F K nL cc Ts own tys) {n : Fin 4} {i : Nat} {x : Nat} {lv' : List (Nat × Value)} (hd : decode cc pc = .ok (.astore_n n, 1)) (hi : (n : Nat) = i) (hn : i < nL) (hl' : (i, Value.ref x) :: lv.filter (fun q => !(q.1 == i) && !(q.1 + 1 == i && q.2.category == 2)) = lv') (k : J K nL R pu cells slots ws lv' rest (pc + 1)) : J K nL R pu cells slots ws lv (.ref x :: rest) pc :=
  fun H locs _ h hl => lv_astore_n X.1.1 X.1.2.1 hd hi hl hn hl' (fun ls hl => k H locs ls h hl)
theorem J_astore (X : jX F K nL cc Ts own tys) {i : Nat} {x : Nat} {lv' : List (Nat × Value)} (hd : decode cc pc = .ok (.astore i, 2)) (hn : i < nL) (hl' : (i, Value.ref x) :: lv.filter (fun q => !(q.1 == i) && !(q.1 + 1 == i && q.2.category == 2)) = lv') (k : J K nL R pu cells slots ws lv' rest (pc + 2)) : J K nL R pu cells slots ws lv (.ref x :: rest) pc :=
  fun H locs _ h hl => lv_astore X.1.1 X.1.2.1 hd hl hn hl' (fun ls hl => k H locs ls h hl)
theorem J_iinc (X : jX F K nL cc Ts own tys) {i : Nat} {n x : Int} {lv' : List (Nat × Value)} (hd : decode cc pc = .ok (.iinc i n, 3)) (q : Nat) (hq : lv[q]? = some (i, .int (zI x))) (hn : i < nL) (hl' : (i, Value.int (zI (x + n))) :: lv.filter (fun q => !(q.1 == i) && !(q.1 + 1 == i && q.2.category == 2)) = lv') (k : J K nL R pu cells slots ws lv' rest (pc + 3)) : J K nL R pu cells slots ws lv rest pc :=
  fun H locs _ h hl => lv_iinc X.1.1 X.1.2.1 hd hl hq (zI_add x n) hn hl' (fun ls hl => k H locs ls h hl)
theorem J_lv {lv' : List (Nat × Value)} (ks : List Nat) (hl' : lv_pick lv ks = lv') (k : J K nL R pu cells slots ws lv' rest pc) : J K nL R pu cells slots ws lv rest pc :=
  fun H locs ls h hl => k H locs ls h (lv_sub hl ks hl')
-- arithmetic
theorem J_iadd (X : jX F K nL cc Ts own tys) {x y : Int} (hd : decode cc pc = .ok (.iadd, 1)) (k : J K nL R pu cells slots ws lv (.int (zI (x + y)) :: rest) (pc + 1)) : J K nL R pu cells slots ws lv (.int (zI y) :: .int (zI x) :: rest) pc := by
  rw [← zI_add] at k
  exact fun H locs ls h hl => lv_iadd X.1.1 X.1.2.1 hd (k H locs ls h hl)
theorem J_ladd (X : jX F K nL cc Ts own tys) {x y : Int} (hd : decode cc pc = .ok (.ladd, 1)) (k : J K nL R pu cells slots ws lv (.long (zL (x + y)) :: rest) (pc + 1)) : J K nL R pu cells slots ws lv (.long (zL y) :: .long (zL x) :: rest) pc := by
  rw [← zL_add] at k
  exact fun H locs ls h hl => lv_ladd X.1.1 X.1.2.1 hd (k H locs ls h hl)
theorem J_isub (X : jX F K nL cc Ts own tys) {x y : Int} (hd : decode cc pc = .ok (.isub, 1)) (k : J K nL R pu cells slots ws lv (.int (zI (x - y)) :: rest) (pc + 1)) : J K nL R pu cells slots ws lv (.int (zI y) :: .int (zI x) :: rest) pc := by
  rw [← zI_sub] at k
  exact fun H locs ls h hl => lv_isub X.1.1 X.1.2.1 hd (k H locs ls h hl)
theorem J_lsub (X : jX F K nL cc Ts own tys) {x y : Int} (hd : decode cc pc = .ok (.lsub, 1)) (k : J K nL R pu cells slots ws lv (.long (zL (x - y)) :: rest) (pc + 1)) : J K nL R pu cells slots ws lv (.long (zL y) :: .long (zL x) :: rest) pc := by
  rw [← zL_sub] at k
  exact fun H locs ls h hl => lv_lsub X.1.1 X.1.2.1 hd (k H locs ls h hl)
theorem J_imul (X : jX F K nL cc Ts own tys) {x y : Int} (hd : decode cc pc = .ok (.imul, 1)) (k : J K nL R pu cells slots ws lv (.int (zI (x * y)) :: rest) (pc + 1)) : J K nL R pu cells slots ws lv (.int (zI y) :: .int (zI x) :: rest) pc := by
  rw [← zI_mul] at k
  exact fun H locs ls h hl => lv_imul X.1.1 X.1.2.1 hd (k H locs ls h hl)
theorem J_lmul (X : jX F K nL cc Ts own tys) {x y : Int} (hd : decode cc pc = .ok (.lmul, 1)) (k : J K nL R pu cells slots ws lv (.long (zL (x * y)) :: rest) (pc + 1)) : J K nL R pu cells slots ws lv (.long (zL y) :: .long (zL x) :: rest) pc := by
  rw [← zL_mul] at k
  exact fun H locs ls h hl => lv_lmul X.1.1 X.1.2.1 hd (k H locs ls h hl)
theorem J_lmulw (X : jX F K nL cc Ts own tys) {x y : Int} (hd : decode cc pc = .ok (.lmul, 1)) (k : J K nL R pu cells slots ws lv (.long (zL (j_w64 (x * y))) :: rest) (pc + 1)) : J K nL R pu cells slots ws lv (.long (zL y) :: .long (zL x) :: rest) pc := by
  rw [show zL (j_w64 (x * y)) = zL (x * y) from zL_of _] at k
  exact J_lmul X hd k
theorem J_iand (X : jX F K nL cc Ts own tys) {x y : Int} (hd : decode cc pc = .ok (.iand, 1)) (k : J K nL R pu cells slots ws lv (.int (zI (j_and x y)) :: rest) (pc + 1)) : J K nL R pu cells slots ws lv (.int (zI y) :: .int (zI x) :: rest) pc := by
  unfold j_and at k
  rw [zI_of] at k
  exact fun H locs ls h hl => lv_iand X.1.1 X.1.2.1 hd (k H locs ls h hl)
theorem J_lxor (X : jX F K nL cc Ts own tys) {x y : Int} (hd : decode cc pc = .ok (.lxor, 1)) (k : J K nL R pu cells slots ws lv (.long (zL (j_lxor x y)) :: rest) (pc + 1)) : J K nL R pu cells slots ws lv (.long (zL y) :: .long (zL x) :: rest) pc := by
  unfold j_lxor at k
  rw [zL_of] at k
  exact fun H locs ls h hl => lv_lxor X.1.1 X.1.2.1 hd (k H locs ls h hl)
theorem J_lushr (X : jX F K nL cc Ts own tys) {x y : Int} (hd : decode cc pc = .ok (.lushr, 1)) (k : J K nL R pu cells slots ws lv (.long (zL (j_ushr x y)) :: rest) (pc + 1)) : J K nL R pu cells slots ws lv (.int (zI y) :: .long (zL x) :: rest) pc := by
  unfold j_ushr at k
  rw [zL_of] at k
  exact fun H locs ls h hl => lv_lushr X.1.1 X.1.2.1 hd rfl (k H locs ls h hl)
theorem J_lshr (X : jX F K nL cc Ts own tys) {x y : Int} (hd : decode cc pc = .ok (.lshr, 1)) (k : J K nL R pu cells slots ws lv (.long (zL (j_shr x y)) :: rest) (pc + 1)) : J K nL R pu cells slots ws lv (.int (zI y) :: .long (zL x) :: rest) pc := by
  unfold j_shr at k
  rw [zL_of] at k
  exact fun H locs ls h hl => lv_lshr X.1.1 X.1.2.1 hd rfl (k H locs ls h hl)
theorem J_idiv (X : jX F K nL cc Ts own tys) {x y : Int} (g : jdv x y = true) (hd : decode cc pc = .ok (.idiv, 1)) (k : J K nL R pu cells slots ws lv (.int (zI (x.tdiv y)) :: rest) (pc + 1)) : J K nL R pu cells slots ws lv (.int (zI y) :: .int (zI x) :: rest) pc := by
  obtain ⟨g1, g2, g3⟩ := jdv_use g
  rw [← zI_div g1 g2] at k
  exact fun H locs ls h hl => lv_idiv X.1.1 X.1.2.1 hd (zI_ne0 g2 g3) (k H locs ls h hl)
theorem J_irem (X : jX F K nL cc Ts own tys) {x y : Int} (g : jdv x y = true) (hd : decode cc pc = .ok (.irem, 1)) (k : J K nL R pu cells slots ws lv (.int (zI (x - x.tdiv y * y)) :: rest) (pc + 1)) : J K nL R pu cells slots ws lv (.int (zI y) :: .int (zI x) :: rest) pc := by
  obtain ⟨g1, g2, g3⟩ := jdv_use g
  rw [← zI_sub, ← zI_mul, ← zI_div g1 g2] at k
  exact fun H locs ls h hl => lv_irem X.1.1 X.1.2.1 hd (zI_ne0 g2 g3) (k H locs ls h hl)
theorem J_ldiv (X : jX F K nL cc Ts own tys) {x y : Int} (g : jdl x y = true) (hd : decode cc pc = .ok (.ldiv, 1)) (k : J K nL R pu cells slots ws lv (.long (zL (x.tdiv y)) :: rest) (pc + 1)) : J K nL R pu cells slots ws lv (.long (zL y) :: .long (zL x) :: rest) pc := by
  obtain ⟨g1, g2, g3⟩ := jdl_use g
  rw [← zL_div g1 g2] at k
  exact fun H locs ls h hl => lv_ldiv X.1.1 X.1.2.1 hd (zL_ne0 g2 g3) (k H locs ls h hl)
theorem J_lrem (X : jX F K nL cc Ts own tys) {x y : Int} (g : jdl x y = true) (hd : decode cc pc = .ok (.lrem, 1)) (k : J K nL R pu cells slots ws lv (.long (zL (x - x.tdiv y * y)) :: rest) (pc + 1)) : J K nL R pu cells slots ws lv (.long (zL y) :: .long (zL x) :: rest) pc := by
  obtain ⟨g1, g2, g3⟩ := jdl_use g
  rw [← zL_sub, ← zL_mul, ← zL_div g1 g2] at k
  exact fun H locs ls h hl => lv_lrem X.1.1 X.1.2.1 hd (zL_ne0 g2 g3) (k H locs ls h hl)
theorem J_i2l (X : jX F K nL cc Ts own tys) {x : Int} (g : rI x = true) (hd : decode cc pc = .ok (.i2l, 1)) (k : J K nL R pu cells slots ws lv (.long (zL x) :: rest) (pc + 1)) : J K nL R pu cells slots ws lv (.int (zI x) :: rest) pc :=
  fun H locs ls h hl => lv_i2l X.1.1 X.1.2.1 hd (zI_l g) (k H locs ls h hl)
theorem J_l2i (X : jX F K nL cc Ts own tys) {x : Int} (hd : decode cc pc = .ok (.l2i, 1)) (k : J K nL R pu cells slots ws lv (.int (zI x) :: rest) (pc + 1)) : J K nL R pu cells slots ws lv (.long (zL x) :: rest) pc :=
  fun H locs ls h hl => lv_l2i X.1.1 X.1.2.1 hd zL_i (k H locs ls h hl)
theorem J_i2b (X : jX F K nL cc Ts own tys) {x : Int} (hd : decode cc pc = .ok (.i2b, 1)) (k : J K nL R pu cells slots ws lv (.int (zI (j_b8 x)) :: rest) (pc + 1)) : J K nL R pu cells slots ws lv (.int (zI x) :: rest) pc :=
  fun H locs ls h hl => lv_i2b X.1.1 X.1.2.1 hd (zI_of _).symm (k H locs ls h hl)
theorem J_dup (X : jX F K nL cc Ts own tys) {v : Value} (hd : decode cc pc = .ok (.dup, 1)) (hv : v.category = 1) (k : J K nL R pu cells slots ws lv (v :: v :: rest) (pc + 1)) : J K nL R pu cells slots ws lv (v :: rest) pc :=
  fun H locs ls h hl => lv_dup X.1.1 X.1.2.1 hd hv (k H locs ls h hl)
theorem J_dup2 (X : jX F K nL cc Ts own tys) {va vb : Value} (hd : decode cc pc = .ok (.dup2, 1)) (hva : va.category = 1) (hvb : vb.category = 1) (k : J K nL R pu cells slots ws lv (va :: vb :: va :: vb :: rest) (pc + 1)) : J K nL R pu cells slots ws lv (va :: vb :: rest) pc :=
  fun H locs ls h hl => lv_dup2_11 X.1.1 X.1.2.1 hd hva hvb (k H locs ls h hl)
theorem J_pop (X : jX F K nL cc Ts own tys) {v : Value} (hd : decode cc pc = .ok (.pop, 1)) (hv : v.category = 1) (k : J K nL R pu cells slots ws lv rest (pc + 1)) : J K nL R pu cells slots ws lv (v :: rest) pc :=
  fun H locs ls h hl => lv_pop X.1.1 X.1.2.1 hd hv (k H locs ls h hl)
-- what a program with an answer says, step by step
theorem wk_g {α : Type} {g : Prop} {inst : Decidable g} {a : Option α} {o : α} (h : (@ite (Option α) g inst a none) = some o) : g ∧ a = some o := by
  by_cases c : g
  · rw [if_pos c] at h; exact ⟨c, h⟩
  · rw [if_neg c] at h; cases h
theorem wk_t {α : Type} {g : Prop} {inst : Decidable g} {a b : Option α} {o : α} (c : g) (h : (@ite (Option α) g inst a b) = some o) : a = some o := by rw [if_pos c] at h; exact h
theorem wk_f {α : Type} {g : Prop} {inst : Decidable g} {a b : Option α} {o : α} (c : ¬ g) (h : (@ite (Option α) g inst a b) = some o) : b = some o := by rw [if_neg c] at h; exact h
theorem wk_b {α β : Type} {x : Option α} {f : α → Option β} {o : β} (h : x.bind f = some o) : ∃ a, x = some a ∧ f a = some o := by
  cases x with
  | none => cases h
  | some a => exact ⟨a, rfl, h⟩
theorem wk_c {α : Type} {g : Prop} {inst : Decidable g} {a b : Option α} {o : α} (h : (@ite (Option α) g inst a b) = some o) : (g ∧ a = some o) ∨ (¬ g ∧ b = some o) := by
  by_cases c : g
  · rw [if_pos c] at h; exact Or.inl ⟨c, h⟩
  · rw [if_neg c] at h; exact Or.inr ⟨c, h⟩
def ob2 {α1 α2 β : Type} (x : Option (α1 × α2)) (f : α1 → α2 → Option β) : Option β := x.bind (fun q => f q.1 q.2)
theorem wk_b2 {α1 α2 β : Type} {x : Option (α1 × α2)} {f : α1 → α2 → Option β} {o : β} (h : ob2 x f = some o) : ∃ a1 a2, x = some (a1, a2) ∧ f a1 a2 = some o := by
  cases x with
  | none => cases h
  | some q => obtain ⟨a1, a2⟩ := q; exact ⟨a1, a2, rfl, h⟩
def ob3 {α1 α2 α3 β : Type} (x : Option (α1 × α2 × α3)) (f : α1 → α2 → α3 → Option β) : Option β := x.bind (fun q => f q.1 q.2.1 q.2.2)
theorem wk_b3 {α1 α2 α3 β : Type} {x : Option (α1 × α2 × α3)} {f : α1 → α2 → α3 → Option β} {o : β} (h : ob3 x f = some o) : ∃ a1 a2 a3, x = some (a1, a2, a3) ∧ f a1 a2 a3 = some o := by
  cases x with
  | none => cases h
  | some q => obtain ⟨a1, a2, a3⟩ := q; exact ⟨a1, a2, a3, rfl, h⟩
def ob4 {α1 α2 α3 α4 β : Type} (x : Option (α1 × α2 × α3 × α4)) (f : α1 → α2 → α3 → α4 → Option β) : Option β := x.bind (fun q => f q.1 q.2.1 q.2.2.1 q.2.2.2)
theorem wk_b4 {α1 α2 α3 α4 β : Type} {x : Option (α1 × α2 × α3 × α4)} {f : α1 → α2 → α3 → α4 → Option β} {o : β} (h : ob4 x f = some o) : ∃ a1 a2 a3 a4, x = some (a1, a2, a3, a4) ∧ f a1 a2 a3 a4 = some o := by
  cases x with
  | none => cases h
  | some q => obtain ⟨a1, a2, a3, a4⟩ := q; exact ⟨a1, a2, a3, a4, rfl, h⟩
def ob5 {α1 α2 α3 α4 α5 β : Type} (x : Option (α1 × α2 × α3 × α4 × α5)) (f : α1 → α2 → α3 → α4 → α5 → Option β) : Option β := x.bind (fun q => f q.1 q.2.1 q.2.2.1 q.2.2.2.1 q.2.2.2.2)
theorem wk_b5 {α1 α2 α3 α4 α5 β : Type} {x : Option (α1 × α2 × α3 × α4 × α5)} {f : α1 → α2 → α3 → α4 → α5 → Option β} {o : β} (h : ob5 x f = some o) : ∃ a1 a2 a3 a4 a5, x = some (a1, a2, a3, a4, a5) ∧ f a1 a2 a3 a4 a5 = some o := by
  cases x with
  | none => cases h
  | some q => obtain ⟨a1, a2, a3, a4, a5⟩ := q; exact ⟨a1, a2, a3, a4, a5, rfl, h⟩
def ob6 {α1 α2 α3 α4 α5 α6 β : Type} (x : Option (α1 × α2 × α3 × α4 × α5 × α6)) (f : α1 → α2 → α3 → α4 → α5 → α6 → Option β) : Option β := x.bind (fun q => f q.1 q.2.1 q.2.2.1 q.2.2.2.1 q.2.2.2.2.1 q.2.2.2.2.2)
theorem wk_b6 {α1 α2 α3 α4 α5 α6 β : Type} {x : Option (α1 × α2 × α3 × α4 × α5 × α6)} {f : α1 → α2 → α3 → α4 → α5 → α6 → Option β} {o : β} (h : ob6 x f = some o) : ∃ a1 a2 a3 a4 a5 a6, x = some (a1, a2, a3, a4, a5, a6) ∧ f a1 a2 a3 a4 a5 a6 = some o := by
  cases x with
  | none => cases h
  | some q => obtain ⟨a1, a2, a3, a4, a5, a6⟩ := q; exact ⟨a1, a2, a3, a4, a5, a6, rfl, h⟩
def ob7 {α1 α2 α3 α4 α5 α6 α7 β : Type} (x : Option (α1 × α2 × α3 × α4 × α5 × α6 × α7)) (f : α1 → α2 → α3 → α4 → α5 → α6 → α7 → Option β) : Option β := x.bind (fun q => f q.1 q.2.1 q.2.2.1 q.2.2.2.1 q.2.2.2.2.1 q.2.2.2.2.2.1 q.2.2.2.2.2.2)
theorem wk_b7 {α1 α2 α3 α4 α5 α6 α7 β : Type} {x : Option (α1 × α2 × α3 × α4 × α5 × α6 × α7)} {f : α1 → α2 → α3 → α4 → α5 → α6 → α7 → Option β} {o : β} (h : ob7 x f = some o) : ∃ a1 a2 a3 a4 a5 a6 a7, x = some (a1, a2, a3, a4, a5, a6, a7) ∧ f a1 a2 a3 a4 a5 a6 a7 = some o := by
  cases x with
  | none => cases h
  | some q => obtain ⟨a1, a2, a3, a4, a5, a6, a7⟩ := q; exact ⟨a1, a2, a3, a4, a5, a6, a7, rfl, h⟩
def ob8 {α1 α2 α3 α4 α5 α6 α7 α8 β : Type} (x : Option (α1 × α2 × α3 × α4 × α5 × α6 × α7 × α8)) (f : α1 → α2 → α3 → α4 → α5 → α6 → α7 → α8 → Option β) : Option β := x.bind (fun q => f q.1 q.2.1 q.2.2.1 q.2.2.2.1 q.2.2.2.2.1 q.2.2.2.2.2.1 q.2.2.2.2.2.2.1 q.2.2.2.2.2.2.2)
theorem wk_b8 {α1 α2 α3 α4 α5 α6 α7 α8 β : Type} {x : Option (α1 × α2 × α3 × α4 × α5 × α6 × α7 × α8)} {f : α1 → α2 → α3 → α4 → α5 → α6 → α7 → α8 → Option β} {o : β} (h : ob8 x f = some o) : ∃ a1 a2 a3 a4 a5 a6 a7 a8, x = some (a1, a2, a3, a4, a5, a6, a7, a8) ∧ f a1 a2 a3 a4 a5 a6 a7 a8 = some o := by
  cases x with
  | none => cases h
  | some q => obtain ⟨a1, a2, a3, a4, a5, a6, a7, a8⟩ := q; exact ⟨a1, a2, a3, a4, a5, a6, a7, a8, rfl, h⟩
def ob9 {α1 α2 α3 α4 α5 α6 α7 α8 α9 β : Type} (x : Option (α1 × α2 × α3 × α4 × α5 × α6 × α7 × α8 × α9)) (f : α1 → α2 → α3 → α4 → α5 → α6 → α7 → α8 → α9 → Option β) : Option β := x.bind (fun q => f q.1 q.2.1 q.2.2.1 q.2.2.2.1 q.2.2.2.2.1 q.2.2.2.2.2.1 q.2.2.2.2.2.2.1 q.2.2.2.2.2.2.2.1 q.2.2.2.2.2.2.2.2)
theorem wk_b9 {α1 α2 α3 α4 α5 α6 α7 α8 α9 β : Type} {x : Option (α1 × α2 × α3 × α4 × α5 × α6 × α7 × α8 × α9)} {f : α1 → α2 → α3 → α4 → α5 → α6 → α7 → α8 → α9 → Option β} {o : β} (h : ob9 x f = some o) : ∃ a1 a2 a3 a4 a5 a6 a7 a8 a9, x = some (a1, a2, a3, a4, a5, a6, a7, a8, a9) ∧ f a1 a2 a3 a4 a5 a6 a7 a8 a9 = some o := by
  cases x with
  | none => cases h
  | some q => obtain ⟨a1, a2, a3, a4, a5, a6, a7, a8, a9⟩ := q; exact ⟨a1, a2, a3, a4, a5, a6, a7, a8, a9, rfl, h⟩
def ob10 {α1 α2 α3 α4 α5 α6 α7 α8 α9 α10 β : Type} (x : Option (α1 × α2 × α3 × α4 × α5 × α6 × α7 × α8 × α9 × α10)) (f : α1 → α2 → α3 → α4 → α5 → α6 → α7 → α8 → α9 → α10 → Option β) : Option β := x.bind (fun q => f q.1 q.2.1 q.2.2.1 q.2.2.2.1 q.2.2.2.2.1 q.2.2.2.2.2.1 q.2.2.2.2.2.2.1 q.2.2.2.2.2.2.2.1 q.2.2.2.2.2.2.2.2.1 q.2.2.2.2.2.2.2.2.2)
theorem wk_b10 {α1 α2 α3 α4 α5 α6 α7 α8 α9 α10 β : Type} {x : Option (α1 × α2 × α3 × α4 × α5 × α6 × α7 × α8 × α9 × α10)} {f : α1 → α2 → α3 → α4 → α5 → α6 → α7 → α8 → α9 → α10 → Option β} {o : β} (h : ob10 x f = some o) : ∃ a1 a2 a3 a4 a5 a6 a7 a8 a9 a10, x = some (a1, a2, a3, a4, a5, a6, a7, a8, a9, a10) ∧ f a1 a2 a3 a4 a5 a6 a7 a8 a9 a10 = some o := by
  cases x with
  | none => cases h
  | some q => obtain ⟨a1, a2, a3, a4, a5, a6, a7, a8, a9, a10⟩ := q; exact ⟨a1, a2, a3, a4, a5, a6, a7, a8, a9, a10, rfl, h⟩
def ob11 {α1 α2 α3 α4 α5 α6 α7 α8 α9 α10 α11 β : Type} (x : Option (α1 × α2 × α3 × α4 × α5 × α6 × α7 × α8 × α9 × α10 × α11)) (f : α1 → α2 → α3 → α4 → α5 → α6 → α7 → α8 → α9 → α10 → α11 → Option β) : Option β := x.bind (fun q => f q.1 q.2.1 q.2.2.1 q.2.2.2.1 q.2.2.2.2.1 q.2.2.2.2.2.1 q.2.2.2.2.2.2.1 q.2.2.2.2.2.2.2.1 q.2.2.2.2.2.2.2.2.1 q.2.2.2.2.2.2.2.2.2.1 q.2.2.2.2.2.2.2.2.2.2)
theorem wk_b11 {α1 α2 α3 α4 α5 α6 α7 α8 α9 α10 α11 β : Type} {x : Option (α1 × α2 × α3 × α4 × α5 × α6 × α7 × α8 × α9 × α10 × α11)} {f : α1 → α2 → α3 → α4 → α5 → α6 → α7 → α8 → α9 → α10 → α11 → Option β} {o : β} (h : ob11 x f = some o) : ∃ a1 a2 a3 a4 a5 a6 a7 a8 a9 a10 a11, x = some (a1, a2, a3, a4, a5, a6, a7, a8, a9, a10, a11) ∧ f a1 a2 a3 a4 a5 a6 a7 a8 a9 a10 a11 = some o := by
  cases x with
  | none => cases h
  | some q => obtain ⟨a1, a2, a3, a4, a5, a6, a7, a8, a9, a10, a11⟩ := q; exact ⟨a1, a2, a3, a4, a5, a6, a7, a8, a9, a10, a11, rfl, h⟩
def ob12 {α1 α2 α3 α4 α5 α6 α7 α8 α9 α10 α11 α12 β : Type} (x : Option (α1 × α2 × α3 × α4 × α5 × α6 × α7 × α8 × α9 × α10 × α11 × α12)) (f : α1 → α2 → α3 → α4 → α5 → α6 → α7 → α8 → α9 → α10 → α11 → α12 → Option β) : Option β := x.bind (fun q => f q.1 q.2.1 q.2.2.1 q.2.2.2.1 q.2.2.2.2.1 q.2.2.2.2.2.1 q.2.2.2.2.2.2.1 q.2.2.2.2.2.2.2.1 q.2.2.2.2.2.2.2.2.1 q.2.2.2.2.2.2.2.2.2.1 q.2.2.2.2.2.2.2.2.2.2.1 q.2.2.2.2.2.2.2.2.2.2.2)
theorem wk_b12 {α1 α2 α3 α4 α5 α6 α7 α8 α9 α10 α11 α12 β : Type} {x : Option (α1 × α2 × α3 × α4 × α5 × α6 × α7 × α8 × α9 × α10 × α11 × α12)} {f : α1 → α2 → α3 → α4 → α5 → α6 → α7 → α8 → α9 → α10 → α11 → α12 → Option β} {o : β} (h : ob12 x f = some o) : ∃ a1 a2 a3 a4 a5 a6 a7 a8 a9 a10 a11 a12, x = some (a1, a2, a3, a4, a5, a6, a7, a8, a9, a10, a11, a12) ∧ f a1 a2 a3 a4 a5 a6 a7 a8 a9 a10 a11 a12 = some o := by
  cases x with
  | none => cases h
  | some q => obtain ⟨a1, a2, a3, a4, a5, a6, a7, a8, a9, a10, a11, a12⟩ := q; exact ⟨a1, a2, a3, a4, a5, a6, a7, a8, a9, a10, a11, a12, rfl, h⟩
def ob13 {α1 α2 α3 α4 α5 α6 α7 α8 α9 α10 α11 α12 α13 β : Type} (x : Option (α1 × α2 × α3 × α4 × α5 × α6 × α7 × α8 × α9 × α10 × α11 × α12 × α13)) (f : α1 → α2 → α3 → α4 → α5 → α6 → α7 → α8 → α9 → α10 → α11 → α12 → α13 → Option β) : Option β := x.bind (fun q => f q.1 q.2.1 q.2.2.1 q.2.2.2.1 q.2.2.2.2.1 q.2.2.2.2.2.1 q.2.2.2.2.2.2.1 q.2.2.2.2.2.2.2.1 q.2.2.2.2.2.2.2.2.1 q.2.2.2.2.2.2.2.2.2.1 q.2.2.2.2.2.2.2.2.2.2.1 q.2.2.2.2.2.2.2.2.2.2.2.1 q.2.2.2.2.2.2.2.2.2.2.2.2)
theorem wk_b13 {α1 α2 α3 α4 α5 α6 α7 α8 α9 α10 α11 α12 α13 β : Type} {x : Option (α1 × α2 × α3 × α4 × α5 × α6 × α7 × α8 × α9 × α10 × α11 × α12 × α13)} {f : α1 → α2 → α3 → α4 → α5 → α6 → α7 → α8 → α9 → α10 → α11 → α12 → α13 → Option β} {o : β} (h : ob13 x f = some o) : ∃ a1 a2 a3 a4 a5 a6 a7 a8 a9 a10 a11 a12 a13, x = some (a1, a2, a3, a4, a5, a6, a7, a8, a9, a10, a11, a12, a13) ∧ f a1 a2 a3 a4 a5 a6 a7 a8 a9 a10 a11 a12 a13 = some o := by
  cases x with
  | none => cases h
  | some q => obtain ⟨a1, a2, a3, a4, a5, a6, a7, a8, a9, a10, a11, a12, a13⟩ := q; exact ⟨a1, a2, a3, a4, a5, a6, a7, a8, a9, a10, a11, a12, a13, rfl, h⟩
def ob14 {α1 α2 α3 α4 α5 α6 α7 α8 α9 α10 α11 α12 α13 α14 β : Type} (x : Option (α1 × α2 × α3 × α4 × α5 × α6 × α7 × α8 × α9 × α10 × α11 × α12 × α13 × α14)) (f : α1 → α2 → α3 → α4 → α5 → α6 → α7 → α8 → α9 → α10 → α11 → α12 → α13 → α14 → Option β) : Option β := x.bind (fun q => f q.1 q.2.1 q.2.2.1 q.2.2.2.1 q.2.2.2.2.1 q.2.2.2.2.2.1 q.2.2.2.2.2.2.1 q.2.2.2.2.2.2.2.1 q.2.2.2.2.2.2.2.2.1 q.2.2.2.2.2.2.2.2.2.1 q.2.2.2.2.2.2.2.2.2.2.1 q.2.2.2.2.2.2.2.2.2.2.2.1 q.2.2.2.2.2.2.2.2.2.2.2.2.1 q.2.2.2.2.2.2.2.2.2.2.2.2.2)
theorem wk_b14 {α1 α2 α3 α4 α5 α6 α7 α8 α9 α10 α11 α12 α13 α14 β : Type} {x : Option (α1 × α2 × α3 × α4 × α5 × α6 × α7 × α8 × α9 × α10 × α11 × α12 × α13 × α14)} {f : α1 → α2 → α3 → α4 → α5 → α6 → α7 → α8 → α9 → α10 → α11 → α12 → α13 → α14 → Option β} {o : β} (h : ob14 x f = some o) : ∃ a1 a2 a3 a4 a5 a6 a7 a8 a9 a10 a11 a12 a13 a14, x = some (a1, a2, a3, a4, a5, a6, a7, a8, a9, a10, a11, a12, a13, a14) ∧ f a1 a2 a3 a4 a5 a6 a7 a8 a9 a10 a11 a12 a13 a14 = some o := by
  cases x with
  | none => cases h
  | some q => obtain ⟨a1, a2, a3, a4, a5, a6, a7, a8, a9, a10, a11, a12, a13, a14⟩ := q; exact ⟨a1, a2, a3, a4, a5, a6, a7, a8, a9, a10, a11, a12, a13, a14, rfl, h⟩
def ob15 {α1 α2 α3 α4 α5 α6 α7 α8 α9 α10 α11 α12 α13 α14 α15 β : Type} (x : Option (α1 × α2 × α3 × α4 × α5 × α6 × α7 × α8 × α9 × α10 × α11 × α12 × α13 × α14 × α15)) (f : α1 → α2 → α3 → α4 → α5 → α6 → α7 → α8 → α9 → α10 → α11 → α12 → α13 → α14 → α15 → Option β) : Option β := x.bind (fun q => f q.1 q.2.1 q.2.2.1 q.2.2.2.1 q.2.2.2.2.1 q.2.2.2.2.2.1 q.2.2.2.2.2.2.1 q.2.2.2.2.2.2.2.1 q.2.2.2.2.2.2.2.2.1 q.2.2.2.2.2.2.2.2.2.1 q.2.2.2.2.2.2.2.2.2.2.1 q.2.2.2.2.2.2.2.2.2.2.2.1 q.2.2.2.2.2.2.2.2.2.2.2.2.1 q.2.2.2.2.2.2.2.2.2.2.2.2.2.1 q.2.2.2.2.2.2.2.2.2.2.2.2.2.2)
theorem wk_b15 {α1 α2 α3 α4 α5 α6 α7 α8 α9 α10 α11 α12 α13 α14 α15 β : Type} {x : Option (α1 × α2 × α3 × α4 × α5 × α6 × α7 × α8 × α9 × α10 × α11 × α12 × α13 × α14 × α15)} {f : α1 → α2 → α3 → α4 → α5 → α6 → α7 → α8 → α9 → α10 → α11 → α12 → α13 → α14 → α15 → Option β} {o : β} (h : ob15 x f = some o) : ∃ a1 a2 a3 a4 a5 a6 a7 a8 a9 a10 a11 a12 a13 a14 a15, x = some (a1, a2, a3, a4, a5, a6, a7, a8, a9, a10, a11, a12, a13, a14, a15) ∧ f a1 a2 a3 a4 a5 a6 a7 a8 a9 a10 a11 a12 a13 a14 a15 = some o := by
  cases x with
  | none => cases h
  | some q => obtain ⟨a1, a2, a3, a4, a5, a6, a7, a8, a9, a10, a11, a12, a13, a14, a15⟩ := q; exact ⟨a1, a2, a3, a4, a5, a6, a7, a8, a9, a10, a11, a12, a13, a14, a15, rfl, h⟩
def ob16 {α1 α2 α3 α4 α5 α6 α7 α8 α9 α10 α11 α12 α13 α14 α15 α16 β : Type} (x : Option (α1 × α2 × α3 × α4 × α5 × α6 × α7 × α8 × α9 × α10 × α11 × α12 × α13 × α14 × α15 × α16)) (f : α1 → α2 → α3 → α4 → α5 → α6 → α7 → α8 → α9 → α10 → α11 → α12 → α13 → α14 → α15 → α16 → Option β) : Option β := x.bind (fun q => f q.1 q.2.1 q.2.2.1 q.2.2.2.1 q.2.2.2.2.1 q.2.2.2.2.2.1 q.2.2.2.2.2.2.1 q.2.2.2.2.2.2.2.1 q.2.2.2.2.2.2.2.2.1 q.2.2.2.2.2.2.2.2.2.1 q.2.2.2.2.2.2.2.2.2.2.1 q.2.2.2.2.2.2.2.2.2.2.2.1 q.2.2.2.2.2.2.2.2.2.2.2.2.1 q.2.2.2.2.2.2.2.2.2.2.2.2.2.1 q.2.2.2.2.2.2.2.2.2.2.2.2.2.2.1 q.2.2.2.2.2.2.2.2.2.2.2.2.2.2.2)
theorem wk_b16 {α1 α2 α3 α4 α5 α6 α7 α8 α9 α10 α11 α12 α13 α14 α15 α16 β : Type} {x : Option (α1 × α2 × α3 × α4 × α5 × α6 × α7 × α8 × α9 × α10 × α11 × α12 × α13 × α14 × α15 × α16)} {f : α1 → α2 → α3 → α4 → α5 → α6 → α7 → α8 → α9 → α10 → α11 → α12 → α13 → α14 → α15 → α16 → Option β} {o : β} (h : ob16 x f = some o) : ∃ a1 a2 a3 a4 a5 a6 a7 a8 a9 a10 a11 a12 a13 a14 a15 a16, x = some (a1, a2, a3, a4, a5, a6, a7, a8, a9, a10, a11, a12, a13, a14, a15, a16) ∧ f a1 a2 a3 a4 a5 a6 a7 a8 a9 a10 a11 a12 a13 a14 a15 a16 = some o := by
  cases x with
  | none => cases h
  | some q => obtain ⟨a1, a2, a3, a4, a5, a6, a7, a8, a9, a10, a11, a12, a13, a14, a15, a16⟩ := q; exact ⟨a1, a2, a3, a4, a5, a6, a7, a8, a9, a10, a11, a12, a13, a14, a15, a16, rfl, h⟩
def ob17 {α1 α2 α3 α4 α5 α6 α7 α8 α9 α10 α11 α12 α13 α14 α15 α16 α17 β : Type} (x : Option (α1 × α2 × α3 × α4 × α5 × α6 × α7 × α8 × α9 × α10 × α11 × α12 × α13 × α14 × α15 × α16 × α17)) (f : α1 → α2 → α3 → α4 → α5 → α6 → α7 → α8 → α9 → α10 → α11 → α12 → α13 → α14 → α15 → α16 → α17 → Option β) : Option β := x.bind (fun q => f q.1 q.2.1 q.2.2.1 q.2.2.2.1 q.2.2.2.2.1 q.2.2.2.2.2.1 q.2.2.2.2.2.2.1 q.2.2.2.2.2.2.2.1 q.2.2.2.2.2.2.2.2.1 q.2.2.2.2.2.2.2.2.2.1 q.2.2.2.2.2.2.2.2.2.2.1 q.2.2.2.2.2.2.2.2.2.2.2.1 q.2.2.2.2.2.2.2.2.2.2.2.2.1 q.2.2.2.2.2.2.2.2.2.2.2.2.2.1 q.2.2.2.2.2.2.2.2.2.2.2.2.2.2.1 q.2.2.2.2.2.2.2.2.2.2.2.2.2.2.2.1 q.2.2.2.2.2.2.2.2.2.2.2.2.2.2.2.2)
theorem wk_b17 {α1 α2 α3 α4 α5 α6 α7 α8 α9 α10 α11 α12 α13 α14 α15 α16 α17 β : Type} {x : Option (α1 × α2 × α3 × α4 × α5 × α6 × α7 × α8 × α9 × α10 × α11 × α12 × α13 × α14 × α15 × α16 × α17)} {f : α1 → α2 → α3 → α4 → α5 → α6 → α7 → α8 → α9 → α10 → α11 → α12 → α13 → α14 → α15 → α16 → α17 → Option β} {o : β} (h : ob17 x f = some o) : ∃ a1 a2 a3 a4 a5 a6 a7 a8 a9 a10 a11 a12 a13 a14 a15 a16 a17, x = some (a1, a2, a3, a4, a5, a6, a7, a8, a9, a10, a11, a12, a13, a14, a15, a16, a17) ∧ f a1 a2 a3 a4 a5 a6 a7 a8 a9 a10 a11 a12 a13 a14 a15 a16 a17 = some o := by
  cases x with
  | none => cases h
  | some q => obtain ⟨a1, a2, a3, a4, a5, a6, a7, a8, a9, a10, a11, a12, a13, a14, a15, a16, a17⟩ := q; exact ⟨a1, a2, a3, a4, a5, a6, a7, a8, a9, a10, a11, a12, a13, a14, a15, a16, a17, rfl, h⟩
def ob18 {α1 α2 α3 α4 α5 α6 α7 α8 α9 α10 α11 α12 α13 α14 α15 α16 α17 α18 β : Type} (x : Option (α1 × α2 × α3 × α4 × α5 × α6 × α7 × α8 × α9 × α10 × α11 × α12 × α13 × α14 × α15 × α16 × α17 × α18)) (f : α1 → α2 → α3 → α4 → α5 → α6 → α7 → α8 → α9 → α10 → α11 → α12 → α13 → α14 → α15 → α16 → α17 → α18 → Option β) : Option β := x.bind (fun q => f q.1 q.2.1 q.2.2.1 q.2.2.2.1 q.2.2.2.2.1 q.2.2.2.2.2.1 q.2.2.2.2.2.2.1 q.2.2.2.2.2.2.2.1 q.2.2.2.2.2.2.2.2.1 q.2.2.2.2.2.2.2.2.2.1 q.2.2.2.2.2.2.2.2.2.2.1 q.2.2.2.2.2.2.2.2.2.2.2.1 q.2.2.2.2.2.2.2.2.2.2.2.2.1 q.2.2.2.2.2.2.2.2.2.2.2.2.2.1 q.2.2.2.2.2.2.2.2.2.2.2.2.2.2.1 q.2.2.2.2.2.2.2.2.2.2.2.2.2.2.2.1 q.2.2.2.2.2.2.2.2.2.2.2.2.2.2.2.2.1 q.2.2.2.2.2.2.2.2.2.2.2.2.2.2.2.2.2)
theorem wk_b18 {α1 α2 α3 α4 α5 α6 α7 α8 α9 α10 α11 α12 α13 α14 α15 α16 α17 α18 β : Type} {x : Option (α1 × α2 × α3 × α4 × α5 × α6 × α7 × α8 × α9 × α10 × α11 × α12 × α13 × α14 × α15 × α16 × α17 × α18)} {f : α1 → α2 → α3 → α4 → α5 → α6 → α7 → α8 → α9 → α10 → α11 → α12 → α13 → α14 → α15 → α16 → α17 → α18 → Option β} {o : β} (h : ob18 x f = some o) : ∃ a1 a2 a3 a4 a5 a6 a7 a8 a9 a10 a11 a12 a13 a14 a15 a16 a17 a18, x = some (a1, a2, a3, a4, a5, a6, a7, a8, a9, a10, a11, a12, a13, a14, a15, a16, a17, a18) ∧ f a1 a2 a3 a4 a5 a6 a7 a8 a9 a10 a11 a12 a13 a14 a15 a16 a17 a18 = some o := by
  cases x with
  | none => cases h
  | some q => obtain ⟨a1, a2, a3, a4, a5, a6, a7, a8, a9, a10, a11, a12, a13, a14, a15, a16, a17, a18⟩ := q; exact ⟨a1, a2, a3, a4, a5, a6, a7, a8, a9, a10, a11, a12, a13, a14, a15, a16, a17, a18, rfl, h⟩
def ob19 {α1 α2 α3 α4 α5 α6 α7 α8 α9 α10 α11 α12 α13 α14 α15 α16 α17 α18 α19 β : Type} (x : Option (α1 × α2 × α3 × α4 × α5 × α6 × α7 × α8 × α9 × α10 × α11 × α12 × α13 × α14 × α15 × α16 × α17 × α18 × α19)) (f : α1 → α2 → α3 → α4 → α5 → α6 → α7 → α8 → α9 → α10 → α11 → α12 → α13 → α14 → α15 → α16 → α17 → α18 → α19 → Option β) : Option β := x.bind (fun q => f q.1 q.2.1 q.2.2.1 q.2.2.2.1 q.2.2.2.2.1 q.2.2.2.2.2.1 q.2.2.2.2.2.2.1 q.2.2.2.2.2.2.2.1 q.2.2.2.2.2.2.2.2.1 q.2.2.2.2.2.2.2.2.2.1 q.2.2.2.2.2.2.2.2.2.2.1 q.2.2.2.2.2.2.2.2.2.2.2.1 q.2.2.2.2.2.2.2.2.2.2.2.2.1 q.2.2.2.2.2.2.2.2.2.2.2.2.2.1 q.2.2.2.2.2.2.2.2.2.2.2.2.2.2.1 q.2.2.2.2.2.2.2.2.2.2.2.2.2.2.2.1 q.2.2.2.2.2.2.2.2.2.2.2.2.2.2.2.2.1 q.2.2.2.2.2.2.2.2.2.2.2.2.2.2.2.2.2.1 q.2.2.2.2.2.2.2.2.2.2.2.2.2.2.2.2.2.2)
theorem wk_b19 {α1 α2 α3 α4 α5 α6 α7 α8 α9 α10 α11 α12 α13 α14 α15 α16 α17 α18 α19 β : Type} {x : Option (α1 × α2 × α3 × α4 × α5 × α6 × α7 × α8 × α9 × α10 × α11 × α12 × α13 × α14 × α15 × α16 × α17 × α18 × α19)} {f : α1 → α2 → α3 → α4 → α5 → α6 → α7 → α8 → α9 → α10 → α11 → α12 → α13 → α14 → α15 → α16 → α17 → α18 → α19 → Option β} {o : β} (h : ob19 x f = some o) : ∃ a1 a2 a3 a4 a5 a6 a7 a8 a9 a10 a11 a12 a13 a14 a15 a16 a17 a18 a19, x = some (a1, a2, a3, a4, a5, a6, a7, a8, a9, a10, a11, a12, a13, a14, a15, a16, a17, a18, a19) ∧ f a1 a2 a3 a4 a5 a6 a7 a8 a9 a10 a11 a12 a13 a14 a15 a16 a17 a18 a19 = some o := by
  cases x with
  | none => cases h
  | some q => obtain ⟨a1, a2, a3, a4, a5, a6, a7, a8, a9, a10, a11, a12, a13, a14, a15, a16, a17, a18, a19⟩ := q; exact ⟨a1, a2, a3, a4, a5, a6, a7, a8, a9, a10, a11, a12, a13, a14, a15, a16, a17, a18, a19, rfl, h⟩
def ob20 {α1 α2 α3 α4 α5 α6 α7 α8 α9 α10 α11 α12 α13 α14 α15 α16 α17 α18 α19 α20 β : Type} (x : Option (α1 × α2 × α3 × α4 × α5 × α6 × α7 × α8 × α9 × α10 × α11 × α12 × α13 × α14 × α15 × α16 × α17 × α18 × α19 × α20)) (f : α1 → α2 → α3 → α4 → α5 → α6 → α7 → α8 → α9 → α10 → α11 → α12 → α13 → α14 → α15 → α16 → α17 → α18 → α19 → α20 → Option β) : Option β := x.bind (fun q => f q.1 q.2.1 q.2.2.1 q.2.2.2.1 q.2.2.2.2.1 q.2.2.2.2.2.1 q.2.2.2.2.2.2.1 q.2.2.2.2.2.2.2.1 q.2.2.2.2.2.2.2.2.1 q.2.2.2.2.2.2.2.2.2.1 q.2.2.2.2.2.2.2.2.2.2.1 q.2.2.2.2.2.2.2.2.2.2.2.1 q.2.2.2.2.2.2.2.2.2.2.2.2.1 q.2.2.2.2.2.2.2.2.2.2.2.2.2.1 q.2.2.2.2.2.2.2.2.2.2.2.2.2.2.1 q.2.2.2.2.2.2.2.2.2.2.2.2.2.2.2.1 q.2.2.2.2.2.2.2.2.2.2.2.2.2.2.2.2.1 q.2.2.2.2.2.2.2.2.2.2.2.2.2.2.2.2.2.1 q.2.2.2.2.2.2.2.2.2.2.2.2.2.2.2.2.2.2.1 q.2.2.2.2.2.2.2.2.2.2.2.2.2.2.2.2.2.2.2)
theorem wk_b20 {α1 α2 α3 α4 α5 α6 α7 α8 α9 α10 α11 α12 α13 α14 α15 α16 α17 α18 α19 α20 β : Type} {x : Option (α1 × α2 × α3 × α4 × α5 × α6 × α7 × α8 × α9 × α10 × α11 × α12 × α13 × α14 × α15 × α16 × α17 × α18 × α19 × α20)} {f : α1 → α2 → α3 → α4 → α5 → α6 → α7 → α8 → α9 → α10 → α11 → α12 → α13 → α14 → α15 → α16 → α17 → α18 → α19 → α20 → Option β} {o : β} (h : ob20 x f = some o) : ∃ a1 a2 a3 a4 a5 a6 a7 a8 a9 a10 a11 a12 a13 a14 a15 a16 a17 a18 a19 a20, x = some (a1, a2, a3, a4, a5, a6, a7, a8, a9, a10, a11, a12, a13, a14, a15, a16, a17, a18, a19, a20) ∧ f a1 a2 a3 a4 a5 a6 a7 a8 a9 a10 a11 a12 a13 a14 a15 a16 a17 a18 a19 a20 = some o := by
  cases x with
  | none => cases h
  | some q => obtain ⟨a1, a2, a3, a4, a5, a6, a7, a8, a9, a10, a11, a12, a13, a14, a15, a16, a17, a18, a19, a20⟩ := q; exact ⟨a1, a2, a3, a4, a5, a6, a7, a8, a9, a10, a11, a12, a13, a14, a15, a16, a17, a18, a19, a20, rfl, h⟩
-- branches
theorem J_if_eq (X : jX F K nL cc Ts own tys) {α : Type} {pa pb : Option α} {o : α} {x : Int} {off : Int} {tgt : Nat} (hd : decode cc pc = .ok (.ifCond .eq off, 3)) (ht : (pc : Int) + off = (tgt : Int)) (h0 : (if rI x = true then (if x = 0 then pa else pb) else none) = some o) (kt : x = 0 → pa = some o → J K nL R pu cells slots ws lv rest tgt) (kf : ¬ (x = 0) → pb = some o → J K nL R pu cells slots ws lv rest (pc + 3)) : J K nL R pu cells slots ws lv (.int (zI x) :: rest) pc := by
  obtain ⟨g0, h1⟩ := wk_g h0
  have g := g0
  exact fun H locs ls h hl => lv_if_eq X.1.1 X.1.2.1 hd ht (fun q => by rw [show (0 : Int32) = zI 0 from zI_0.symm] at q; exact kt ((zI_eq g (by decide)).mp q) (wk_t ((zI_eq g (by decide)).mp q) h1) H locs ls h hl) (fun q => by rw [show (0 : Int32) = zI 0 from zI_0.symm] at q; exact kf (fun w => q ((zI_eq g (by decide)).mpr w)) (wk_f (fun w => q ((zI_eq g (by decide)).mpr w)) h1) H locs ls h hl)
theorem J_icmp_eq (X : jX F K nL cc Ts own tys) {α : Type} {pa pb : Option α} {o : α} {x y : Int} {off : Int} {tgt : Nat} (hd : decode cc pc = .ok (.if_icmp .eq off, 3)) (ht : (pc : Int) + off = (tgt : Int)) (h0 : (if jr2 x y = true then (if x = y then pa else pb) else none) = some o) (kt : x = y → pa = some o → J K nL R pu cells slots ws lv rest tgt) (kf : ¬ (x = y) → pb = some o → J K nL R pu cells slots ws lv rest (pc + 3)) : J K nL R pu cells slots ws lv (.int (zI y) :: .int (zI x) :: rest) pc := by
  obtain ⟨g0, h1⟩ := wk_g h0
  have g := jr2_use g0
  exact fun H locs ls h hl => lv_icmp_eq X.1.1 X.1.2.1 hd ht (fun q => by exact kt ((zI_eq g.1 g.2).mp q) (wk_t ((zI_eq g.1 g.2).mp q) h1) H locs ls h hl) (fun q => by exact kf (fun w => q ((zI_eq g.1 g.2).mpr w)) (wk_f (fun w => q ((zI_eq g.1 g.2).mpr w)) h1) H locs ls h hl)
theorem J_if_ne (X : jX F K nL cc Ts own tys) {α : Type} {pa pb : Option α} {o : α} {x : Int} {off : Int} {tgt : Nat} (hd : decode cc pc = .ok (.ifCond .ne off, 3)) (ht : (pc : Int) + off = (tgt : Int)) (h0 : (if rI x = true then (if x = 0 then pa else pb) else none) = some o) (kt : ¬ (x = 0) → pb = some o → J K nL R pu cells slots ws lv rest tgt) (kf : x = 0 → pa = some o → J K nL R pu cells slots ws lv rest (pc + 3)) : J K nL R pu cells slots ws lv (.int (zI x) :: rest) pc := by
  obtain ⟨g0, h1⟩ := wk_g h0
  have g := g0
  exact fun H locs ls h hl => lv_if_ne X.1.1 X.1.2.1 hd ht (fun q => by rw [show (0 : Int32) = zI 0 from zI_0.symm] at q; exact kt (fun w => q ((zI_eq g (by decide)).mpr w)) (wk_f (fun w => q ((zI_eq g (by decide)).mpr w)) h1) H locs ls h hl) (fun q => by rw [show (0 : Int32) = zI 0 from zI_0.symm] at q; exact kf ((zI_eq g (by decide)).mp q) (wk_t ((zI_eq g (by decide)).mp q) h1) H locs ls h hl)
theorem J_icmp_ne (X : jX F K nL cc Ts own tys) {α : Type} {pa pb : Option α} {o : α} {x y : Int} {off : Int} {tgt : Nat} (hd : decode cc pc = .ok (.if_icmp .ne off, 3)) (ht : (pc : Int) + off = (tgt : Int)) (h0 : (if jr2 x y = true then (if x = y then pa else pb) else none) = some o) (kt : ¬ (x = y) → pb = some o → J K nL R pu cells slots ws lv rest tgt) (kf : x = y → pa = some o → J K nL R pu cells slots ws lv rest (pc + 3)) : J K nL R pu cells slots ws lv (.int (zI y) :: .int (zI x) :: rest) pc := by
  obtain ⟨g0, h1⟩ := wk_g h0
  have g := jr2_use g0
  exact fun H locs ls h hl => lv_icmp_ne X.1.1 X.1.2.1 hd ht (fun q => by exact kt (fun w => q ((zI_eq g.1 g.2).mpr w)) (wk_f (fun w => q ((zI_eq g.1 g.2).mpr w)) h1) H locs ls h hl) (fun q => by exact kf ((zI_eq g.1 g.2).mp q) (wk_t ((zI_eq g.1 g.2).mp q) h1) H locs ls h hl)
theorem J_if_lt (X : jX F K nL cc Ts own tys) {α : Type} {pa pb : Option α} {o : α} {x : Int} {off : Int} {tgt : Nat} (hd : decode cc pc = .ok (.ifCond .lt off, 3)) (ht : (pc : Int) + off = (tgt : Int)) (h0 : (if rI x = true then (if x < 0 then pa else pb) else none) = some o) (kt : x < 0 → pa = some o → J K nL R pu cells slots ws lv rest tgt) (kf : ¬ (x < 0) → pb = some o → J K nL R pu cells slots ws lv rest (pc + 3)) : J K nL R pu cells slots ws lv (.int (zI x) :: rest) pc := by
  obtain ⟨g0, h1⟩ := wk_g h0
  have g := g0
  exact fun H locs ls h hl => lv_if_lt X.1.1 X.1.2.1 hd ht (fun q => by rw [show (0 : Int32) = zI 0 from zI_0.symm] at q; exact kt ((zI_lt g (by decide)).mp q) (wk_t ((zI_lt g (by decide)).mp q) h1) H locs ls h hl) (fun q => by rw [show (0 : Int32) = zI 0 from zI_0.symm] at q; exact kf (fun w => q ((zI_lt g (by decide)).mpr w)) (wk_f (fun w => q ((zI_lt g (by decide)).mpr w)) h1) H locs ls h hl)
theorem J_icmp_lt (X : jX F K nL cc Ts own tys) {α : Type} {pa pb : Option α} {o : α} {x y : Int} {off : Int} {tgt : Nat} (hd : decode cc pc = .ok (.if_icmp .lt off, 3)) (ht : (pc : Int) + off = (tgt : Int)) (h0 : (if jr2 x y = true then (if x < y then pa else pb) else none) = some o) (kt : x < y → pa = some o → J K nL R pu cells slots ws lv rest tgt) (kf : ¬ (x < y) → pb = some o → J K nL R pu cells slots ws lv rest (pc + 3)) : J K nL R pu cells slots ws lv (.int (zI y) :: .int (zI x) :: rest) pc := by
  obtain ⟨g0, h1⟩ := wk_g h0
  have g := jr2_use g0
  exact fun H locs ls h hl => lv_icmp_lt X.1.1 X.1.2.1 hd ht (fun q => by exact kt ((zI_lt g.1 g.2).mp q) (wk_t ((zI_lt g.1 g.2).mp q) h1) H locs ls h hl) (fun q => by exact kf (fun w => q ((zI_lt g.1 g.2).mpr w)) (wk_f (fun w => q ((zI_lt g.1 g.2).mpr w)) h1) H locs ls h hl)
theorem J_if_ge (X : jX F K nL cc Ts own tys) {α : Type} {pa pb : Option α} {o : α} {x : Int} {off : Int} {tgt : Nat} (hd : decode cc pc = .ok (.ifCond .ge off, 3)) (ht : (pc : Int) + off = (tgt : Int)) (h0 : (if rI x = true then (if 0 ≤ x then pa else pb) else none) = some o) (kt : 0 ≤ x → pa = some o → J K nL R pu cells slots ws lv rest tgt) (kf : ¬ (0 ≤ x) → pb = some o → J K nL R pu cells slots ws lv rest (pc + 3)) : J K nL R pu cells slots ws lv (.int (zI x) :: rest) pc := by
  obtain ⟨g0, h1⟩ := wk_g h0
  have g := g0
  exact fun H locs ls h hl => lv_if_ge X.1.1 X.1.2.1 hd ht (fun q => by rw [show (0 : Int32) = zI 0 from zI_0.symm] at q; exact kt ((zI_le (by decide) g).mp q) (wk_t ((zI_le (by decide) g).mp q) h1) H locs ls h hl) (fun q => by rw [show (0 : Int32) = zI 0 from zI_0.symm] at q; exact kf (fun w => q ((zI_le (by decide) g).mpr w)) (wk_f (fun w => q ((zI_le (by decide) g).mpr w)) h1) H locs ls h hl)
theorem J_icmp_ge (X : jX F K nL cc Ts own tys) {α : Type} {pa pb : Option α} {o : α} {x y : Int} {off : Int} {tgt : Nat} (hd : decode cc pc = .ok (.if_icmp .ge off, 3)) (ht : (pc : Int) + off = (tgt : Int)) (h0 : (if jr2 x y = true then (if y ≤ x then pa else pb) else none) = some o) (kt : y ≤ x → pa = some o → J K nL R pu cells slots ws lv rest tgt) (kf : ¬ (y ≤ x) → pb = some o → J K nL R pu cells slots ws lv rest (pc + 3)) : J K nL R pu cells slots ws lv (.int (zI y) :: .int (zI x) :: rest) pc := by
  obtain ⟨g0, h1⟩ := wk_g h0
  have g := jr2_use g0
  exact fun H locs ls h hl => lv_icmp_ge X.1.1 X.1.2.1 hd ht (fun q => by exact kt ((zI_le g.2 g.1).mp q) (wk_t ((zI_le g.2 g.1).mp q) h1) H locs ls h hl) (fun q => by exact kf (fun w => q ((zI_le g.2 g.1).mpr w)) (wk_f (fun w => q ((zI_le g.2 g.1).mpr w)) h1) H locs ls h hl)
theorem J_if_gt (X : jX F K nL cc Ts own tys) {α : Type} {pa pb : Option α} {o : α} {x : Int} {off : Int} {tgt : Nat} (hd : decode cc pc = .ok (.ifCond .gt off, 3)) (ht : (pc : Int) + off = (tgt : Int)) (h0 : (if rI x = true then (if 0 < x then pa else pb) else none) = some o) (kt : 0 < x → pa = some o → J K nL R pu cells slots ws lv rest tgt) (kf : ¬ (0 < x) → pb = some o → J K nL R pu cells slots ws lv rest (pc + 3)) : J K nL R pu cells slots ws lv (.int (zI x) :: rest) pc := by
  obtain ⟨g0, h1⟩ := wk_g h0
  have g := g0
  exact fun H locs ls h hl => lv_if_gt X.1.1 X.1.2.1 hd ht (fun q => by rw [show (0 : Int32) = zI 0 from zI_0.symm] at q; exact kt ((zI_lt (by decide) g).mp q) (wk_t ((zI_lt (by decide) g).mp q) h1) H locs ls h hl) (fun q => by rw [show (0 : Int32) = zI 0 from zI_0.symm] at q; exact kf (fun w => q ((zI_lt (by decide) g).mpr w)) (wk_f (fun w => q ((zI_lt (by decide) g).mpr w)) h1) H locs ls h hl)
theorem J_icmp_gt (X : jX F K nL cc Ts own tys) {α : Type} {pa pb : Option α} {o : α} {x y : Int} {off : Int} {tgt : Nat} (hd : decode cc pc = .ok (.if_icmp .gt off, 3)) (ht : (pc : Int) + off = (tgt : Int)) (h0 : (if jr2 x y = true then (if y < x then pa else pb) else none) = some o) (kt : y < x → pa = some o → J K nL R pu cells slots ws lv rest tgt) (kf : ¬ (y < x) → pb = some o → J K nL R pu cells slots ws lv rest (pc + 3)) : J K nL R pu cells slots ws lv (.int (zI y) :: .int (zI x) :: rest) pc := by
  obtain ⟨g0, h1⟩ := wk_g h0
  have g := jr2_use g0
  exact fun H locs ls h hl => lv_icmp_gt X.1.1 X.1.2.1 hd ht (fun q => by exact kt ((zI_lt g.2 g.1).mp q) (wk_t ((zI_lt g.2 g.1).mp q) h1) H locs ls h hl) (fun q => by exact kf (fun w => q ((zI_lt g.2 g.1).mpr w)) (wk_f (fun w => q ((zI_lt g.2 g.1).mpr w)) h1) H locs ls h hl)
theorem J_if_le (X : jX F K nL cc Ts own tys) {α : Type} {pa pb : Option α} {o : α} {x : Int} {off : Int} {tgt : Nat} (hd : decode cc pc = .ok (.ifCond .le off, 3)) (ht : (pc : Int) + off = (tgt : Int)) (h0 : (if rI x = true then (if x ≤ 0 then pa else pb) else none) = some o) (kt : x ≤ 0 → pa = some o → J K nL R pu cells slots ws lv rest tgt) (kf : ¬ (x ≤ 0) → pb = some o → J K nL R pu cells slots ws lv rest (pc + 3)) : J K nL R pu cells slots ws lv (.int (zI x) :: rest) pc := by
  obtain ⟨g0, h1⟩ := wk_g h0
  have g := g0
  exact fun H locs ls h hl => lv_if_le X.1.1 X.1.2.1 hd ht (fun q => by rw [show (0 : Int32) = zI 0 from zI_0.symm] at q; exact kt ((zI_le g (by decide)).mp q) (wk_t ((zI_le g (by decide)).mp q) h1) H locs ls h hl) (fun q => by rw [show (0 : Int32) = zI 0 from zI_0.symm] at q; exact kf (fun w => q ((zI_le g (by decide)).mpr w)) (wk_f (fun w => q ((zI_le g (by decide)).mpr w)) h1) H locs ls h hl)
theorem J_icmp_le (X : jX F K nL cc Ts own tys) {α : Type} {pa pb : Option α} {o : α} {x y : Int} {off : Int} {tgt : Nat} (hd : decode cc pc = .ok (.if_icmp .le off, 3)) (ht : (pc : Int) + off = (tgt : Int)) (h0 : (if jr2 x y = true then (if x ≤ y then pa else pb) else none) = some o) (kt : x ≤ y → pa = some o → J K nL R pu cells slots ws lv rest tgt) (kf : ¬ (x ≤ y) → pb = some o → J K nL R pu cells slots ws lv rest (pc + 3)) : J K nL R pu cells slots ws lv (.int (zI y) :: .int (zI x) :: rest) pc := by
  obtain ⟨g0, h1⟩ := wk_g h0
  have g := jr2_use g0
  exact fun H locs ls h hl => lv_icmp_le X.1.1 X.1.2.1 hd ht (fun q => by exact kt ((zI_le g.1 g.2).mp q) (wk_t ((zI_le g.1 g.2).mp q) h1) H locs ls h hl) (fun q => by exact kf (fun w => q ((zI_le g.1 g.2).mpr w)) (wk_f (fun w => q ((zI_le g.1 g.2).mpr w)) h1) H locs ls h hl)
theorem J_lc_eq (X : jX F K nL cc Ts own tys) {α : Type} {pa pb : Option α} {o : α} {x y : Int} {off : Int} {tgt : Nat} (hd : decode cc pc = .ok (.lcmp, 1)) (hd2 : decode cc (pc + 1) = .ok (.ifCond .eq off, 3)) (ht : ((pc + 1 : Nat) : Int) + off = (tgt : Int)) (h0 : (if jl2 x y = true then (if x = y then pa else pb) else none) = some o) (kt : x = y → pa = some o → J K nL R pu cells slots ws lv rest tgt) (kf : ¬ (x = y) → pb = some o → J K nL R pu cells slots ws lv rest (pc + 4)) : J K nL R pu cells slots ws lv (.long (zL y) :: .long (zL x) :: rest) pc := by
  obtain ⟨g0, h1⟩ := wk_g h0
  have g := jl2_use g0
  exact fun H locs ls h hl => W.lcmp X.1.1 X.1.2.1 hd (lv_if_eq X.1.1 X.1.2.1 hd2 ht (fun q => kt ((lg_eq g.1 g.2).mp q) (wk_t ((lg_eq g.1 g.2).mp q) h1) H locs ls h hl) (fun q => kf (fun w => q ((lg_eq g.1 g.2).mpr w)) (wk_f (fun w => q ((lg_eq g.1 g.2).mpr w)) h1) H locs ls h hl))
theorem J_lc_ne (X : jX F K nL cc Ts own tys) {α : Type} {pa pb : Option α} {o : α} {x y : Int} {off : Int} {tgt : Nat} (hd : decode cc pc = .ok (.lcmp, 1)) (hd2 : decode cc (pc + 1) = .ok (.ifCond .ne off, 3)) (ht : ((pc + 1 : Nat) : Int) + off = (tgt : Int)) (h0 : (if jl2 x y = true then (if x = y then pa else pb) else none) = some o) (kt : ¬ (x = y) → pb = some o → J K nL R pu cells slots ws lv rest tgt) (kf : x = y → pa = some o → J K nL R pu cells slots ws lv rest (pc + 4)) : J K nL R pu cells slots ws lv (.long (zL y) :: .long (zL x) :: rest) pc := by
  obtain ⟨g0, h1⟩ := wk_g h0
  have g := jl2_use g0
  exact fun H locs ls h hl => W.lcmp X.1.1 X.1.2.1 hd (lv_if_ne X.1.1 X.1.2.1 hd2 ht (fun q => kt (fun w => q ((lg_eq g.1 g.2).mpr w)) (wk_f (fun w => q ((lg_eq g.1 g.2).mpr w)) h1) H locs ls h hl) (fun q => kf ((lg_eq g.1 g.2).mp q) (wk_t ((lg_eq g.1 g.2).mp q) h1) H locs ls h hl))
theorem J_lc_lt (X : jX F K nL cc Ts own tys) {α : Type} {pa pb : Option α} {o : α} {x y : Int} {off : Int} {tgt : Nat} (hd : decode cc pc = .ok (.lcmp, 1)) (hd2 : decode cc (pc + 1) = .ok (.ifCond .lt off, 3)) (ht : ((pc + 1 : Nat) : Int) + off = (tgt : Int)) (h0 : (if jl2 x y = true then (if x < y then pa else pb) else none) = some o) (kt : x < y → pa = some o → J K nL R pu cells slots ws lv rest tgt) (kf : ¬ (x < y) → pb = some o → J K nL R pu cells slots ws lv rest (pc + 4)) : J K nL R pu cells slots ws lv (.long (zL y) :: .long (zL x) :: rest) pc := by
  obtain ⟨g0, h1⟩ := wk_g h0
  have g := jl2_use g0
  exact fun H locs ls h hl => W.lcmp X.1.1 X.1.2.1 hd (lv_if_lt X.1.1 X.1.2.1 hd2 ht (fun q => kt ((lg_lt g.1 g.2).mp q) (wk_t ((lg_lt g.1 g.2).mp q) h1) H locs ls h hl) (fun q => kf (fun w => q ((lg_lt g.1 g.2).mpr w)) (wk_f (fun w => q ((lg_lt g.1 g.2).mpr w)) h1) H locs ls h hl))
theorem J_lc_ge (X : jX F K nL cc Ts own tys) {α : Type} {pa pb : Option α} {o : α} {x y : Int} {off : Int} {tgt : Nat} (hd : decode cc pc = .ok (.lcmp, 1)) (hd2 : decode cc (pc + 1) = .ok (.ifCond .ge off, 3)) (ht : ((pc + 1 : Nat) : Int) + off = (tgt : Int)) (h0 : (if jl2 x y = true then (if y ≤ x then pa else pb) else none) = some o) (kt : y ≤ x → pa = some o → J K nL R pu cells slots ws lv rest tgt) (kf : ¬ (y ≤ x) → pb = some o → J K nL R pu cells slots ws lv rest (pc + 4)) : J K nL R pu cells slots ws lv (.long (zL y) :: .long (zL x) :: rest) pc := by
  obtain ⟨g0, h1⟩ := wk_g h0
  have g := jl2_use g0
  exact fun H locs ls h hl => W.lcmp X.1.1 X.1.2.1 hd (lv_if_ge X.1.1 X.1.2.1 hd2 ht (fun q => kt ((lg_ge g.1 g.2).mp q) (wk_t ((lg_ge g.1 g.2).mp q) h1) H locs ls h hl) (fun q => kf (fun w => q ((lg_ge g.1 g.2).mpr w)) (wk_f (fun w => q ((lg_ge g.1 g.2).mpr w)) h1) H locs ls h hl))
theorem J_lc_gt (X : jX F K nL cc Ts own tys) {α : Type} {pa pb : Option α} {o : α} {x y : Int} {off : Int} {tgt : Nat} (hd : decode cc pc = .ok (.lcmp, 1)) (hd2 : decode cc (pc + 1) = .ok (.ifCond .gt off, 3)) (ht : ((pc + 1 : Nat) : Int) + off = (tgt : Int)) (h0 : (if jl2 x y = true then (if y < x then pa else pb) else none) = some o) (kt : y < x → pa = some o → J K nL R pu cells slots ws lv rest tgt) (kf : ¬ (y < x) → pb = some o → J K nL R pu cells slots ws lv rest (pc + 4)) : J K nL R pu cells slots ws lv (.long (zL y) :: .long (zL x) :: rest) pc := by
  obtain ⟨g0, h1⟩ := wk_g h0
  have g := jl2_use g0
  exact fun H locs ls h hl => W.lcmp X.1.1 X.1.2.1 hd (lv_if_gt X.1.1 X.1.2.1 hd2 ht (fun q => kt ((lg_gt g.1 g.2).mp q) (wk_t ((lg_gt g.1 g.2).mp q) h1) H locs ls h hl) (fun q => kf (fun w => q ((lg_gt g.1 g.2).mpr w)) (wk_f (fun w => q ((lg_gt g.1 g.2).mpr w)) h1) H locs ls h hl))
theorem J_lc_le (X : jX F K nL cc Ts own tys) {α : Type} {pa pb : Option α} {o : α} {x y : Int} {off : Int} {tgt : Nat} (hd : decode cc pc = .ok (.lcmp, 1)) (hd2 : decode cc (pc + 1) = .ok (.ifCond .le off, 3)) (ht : ((pc + 1 : Nat) : Int) + off = (tgt : Int)) (h0 : (if jl2 x y = true then (if x ≤ y then pa else pb) else none) = some o) (kt : x ≤ y → pa = some o → J K nL R pu cells slots ws lv rest tgt) (kf : ¬ (x ≤ y) → pb = some o → J K nL R pu cells slots ws lv rest (pc + 4)) : J K nL R pu cells slots ws lv (.long (zL y) :: .long (zL x) :: rest) pc := by
  obtain ⟨g0, h1⟩ := wk_g h0
  have g := jl2_use g0
  exact fun H locs ls h hl => W.lcmp X.1.1 X.1.2.1 hd (lv_if_le X.1.1 X.1.2.1 hd2 ht (fun q => kt ((lg_le g.1 g.2).mp q) (wk_t ((lg_le g.1 g.2).mp q) h1) H locs ls h hl) (fun q => kf (fun w => q ((lg_le g.1 g.2).mpr w)) (wk_f (fun w => q ((lg_le g.1 g.2).mpr w)) h1) H locs ls h hl))
theorem J_goto (X : jX F K nL cc Ts own tys) {off : Int} {tgt : Nat} (hd : decode cc pc = .ok (.goto off, 3)) (ht : (pc : Int) + off = (tgt : Int)) (k : J K nL R pu cells slots ws lv rest tgt) : J K nL R pu cells slots ws lv rest pc :=
  fun H locs ls h hl => lv_goto X.1.1 X.1.2.1 hd ht (k H locs ls h hl)
theorem J_tsIn (X : jX F K nL cc Ts own tys) {dflt lo hi : Int} {offs : Array Int} {len : Nat} {x : Int} {off : Int} {tgt : Nat} (v : Int) (hx : x = v) (g : rI x = true) (hd : decode cc pc = .ok (.tableswitch dflt lo hi offs, len)) (h1 : ¬ v < lo) (h2 : ¬ hi < v) (ho : offs[(v - lo).toNat]? = some off) (ht : (pc : Int) + off = (tgt : Int)) (k : J K nL R pu cells slots ws lv rest tgt) : J K nL R pu cells slots ws lv (.int (zI x) :: rest) pc := by
  subst hx
  exact fun H locs ls h hl => lv_tableIn X.1.1 X.1.2.1 hd (by rw [zI_toInt g]; exact h1) (by rw [zI_toInt g]; exact h2) (by rw [zI_toInt g]; exact ho) ht (k H locs ls h hl)
theorem J_tsOut (X : jX F K nL cc Ts own tys) {dflt lo hi : Int} {offs : Array Int} {len : Nat} {x : Int} {tgt : Nat} (g : rI x = true) (hd : decode cc pc = .ok (.tableswitch dflt lo hi offs, len)) (hx : x < lo ∨ hi < x) (ht : (pc : Int) + dflt = (tgt : Int)) (k : J K nL R pu cells slots ws lv rest tgt) : J K nL R pu cells slots ws lv (.int (zI x) :: rest) pc :=
  fun H locs ls h hl => lv_tableOut X.1.1 X.1.2.1 hd (by rw [zI_toInt g]; exact hx) ht (k H locs ls h hl)
theorem j_osw {x a o d : Int} {r : List (Int × Int)} (h : ¬ x = a) : Op.lookupswitch.offset ((a, o) :: r) d x = Op.lookupswitch.offset r d x := by
  rw [Op.lookupswitch.offset_cons, if_neg (fun q => h q.symm)]
theorem J_ls (X : jX F K nL cc Ts own tys) {dflt : Int} {ps : Array (Int × Int)} {len : Nat} {x : Int} {off : Int} {tgt : Nat} (g : rI x = true) (hd : decode cc pc = .ok (.lookupswitch dflt ps, len)) (hp : (ps.toList.zip (ps.toList.drop 1)).all (fun (a, next) => a.1 < next.1) = true) (ho : Op.lookupswitch.offset ps.toList dflt x = off) (ht : (pc : Int) + off = (tgt : Int)) (k : J K nL R pu cells slots ws lv rest tgt) : J K nL R pu cells slots ws lv (.int (zI x) :: rest) pc :=
  fun H locs ls h hl => lv_lookup X.1.1 X.1.2.1 hd hp (by rw [zI_toInt g]; exact ho) ht (k H locs ls h hl)
-- fields
theorem J_get (X : jX F K nL cc Ts own tys) {C : String} {T : u_T} {N ci index : Nat} (hin : ∀ w ∈ u_ws C T N, w ∈ Ts) (q0 : Nat) {a : Nat} {fs : List Value} (he : ws[q0]? = some (a, .inr (ci, fs))) (hc : vwCl[ci]? = some (C, T, N)) (k : Nat) (hk : k < N) (hl0 : Cond.fieldLink own index (T k).1 (T k).2.1 (T k).2.2.1 ∈ Ts) {v : Value} (hv : fs[k]? = some v) (hd : decode cc pc = .ok (.getfield index, 3)) (kk : J K nL R pu cells slots ws lv (v :: rest) (pc + 3)) : J K nL R pu cells slots ws lv (.ref a :: rest) pc :=
  fun H locs ls h hl => va_get (D := jD K) (cl := vwCl) (tys := tys) X.1.1 X.1.2.1 X.1.2.2.2.2 hin X.1.2.2.2.1 X.2.1 h.1 q0 he hc k hk (X.1.2.2.2.2 _ hl0) (fun _ z => z) hv hd (kk H locs ls h hl)
theorem J_put (X : jX F K nL cc Ts own tys) {C : String} {T : u_T} {N ci index : Nat} (hin : ∀ w ∈ u_ws C T N, w ∈ Ts) (ty0 : Nat → FieldType) (hty : ∀ k, k < N → parseFieldDescriptor (T k).2.2.1 = some (ty0 k)) (hnm : ∀ a, a < N → ∀ b, b < N → a ≠ b → (T a).2.1 ≠ (T b).2.1) (q0 : Nat) {a : Nat} {fs : List Value} {v : Value} {ws' : va_W} (he : ws[q0]? = some (a, .inr (ci, fs))) (hc : vwCl[ci]? = some (C, T, N)) (k : Nat) (hk : k < N) (hl0 : Cond.fieldLink own index (T k).1 (T k).2.1 (T k).2.2.1 ∈ Ts) (hfin : (T k).2.2.2 = false) (hn : narrow (ty0 k) v = v) (hfit : fits (ty0 k) v = true) (hl1 : k < fs.length) (hd : decode cc pc = .ok (.putfield index, 3)) (hw' : ws.set q0 (a, .inr (ci, fs.set k v)) = ws') (kk : J K nL R false cells slots ws' lv rest (pc + 3)) : J K nL R false cells slots ws lv (v :: .ref a :: rest) pc := by
  subst hw'
  exact fun H locs ls h hl => va_put (D := jD K) (cl := vwCl) (tys := tys) X.1.1 X.1.2.1 X.1.2.2.2.2 hin ty0 hty hnm X.1.2.2.2.1 X.2.1 h.1 h.2.1 h.2.2.1 q0 he hc k hk (X.1.2.2.2.2 _ hl0) (fun _ z => z) hfin (hty k hk) hn hfit hl1 hd (fun H1 locs1 hP hD hS => kk H1 locs1 ls ⟨hP, hD, hS, fun z => by cases z⟩ hl)
-- arrays
theorem J_iald (X : jX F K nL cc Ts own tys) (q0 t0 : Nat) {a : Nat} {cA : ClassId} {n : Nat} {f : Int → Int} (ha : ws[q0]? = some (a, .inl (cA, n, .inl (zA f)))) (ht : tys[t0]? = some (cA, .int)) {i : Int} (g : jix i n = true) (hd : decode cc pc = .ok (.iaload, 1)) (k : J K nL R pu cells slots ws lv (.int (zI (f i)) :: rest) (pc + 1)) : J K nL R pu cells slots ws lv (.int (zI i) :: .ref a :: rest) pc := by
  rw [← zA_at g] at k
  exact fun H locs ls h hl => va_iald (D := jD K) (cl := vwCl) (tys := tys) X.1.1 X.1.2.1 X.2.1 h.1 q0 t0 ha ht (jix_in g) hd (k H locs ls h hl)
theorem J_bald (X : jX F K nL cc Ts own tys) (q0 t0 : Nat) {a : Nat} {cA : ClassId} {n : Nat} {f : Int → Int} (ha : ws[q0]? = some (a, .inl (cA, n, .inl (zA f)))) (ht : tys[t0]? = some (cA, .byte)) {i : Int} (g : jix i n = true) (hd : decode cc pc = .ok (.baload, 1)) (k : J K nL R pu cells slots ws lv (.int (zI (f i)) :: rest) (pc + 1)) : J K nL R pu cells slots ws lv (.int (zI i) :: .ref a :: rest) pc := by
  rw [← zA_at g] at k
  exact fun H locs ls h hl => va_bald (D := jD K) (cl := vwCl) (tys := tys) X.1.1 X.1.2.1 X.2.1 h.1 q0 t0 ha ht (jix_in g) hd (k H locs ls h hl)
theorem J_lald (X : jX F K nL cc Ts own tys) (q0 t0 : Nat) {a : Nat} {cA : ClassId} {n : Nat} {f : Int → Int} (ha : ws[q0]? = some (a, .inl (cA, n, .inr (.inl (zB f))))) (ht : tys[t0]? = some (cA, .long)) {i : Int} (g : jix i n = true) (hd : decode cc pc = .ok (.laload, 1)) (k : J K nL R pu cells slots ws lv (.long (zL (f i)) :: rest) (pc + 1)) : J K nL R pu cells slots ws lv (.int (zI i) :: .ref a :: rest) pc := by
  rw [← zB_at g] at k
  exact fun H locs ls h hl => va_lald (D := jD K) (cl := vwCl) (tys := tys) X.1.1 X.1.2.1 X.2.1 h.1 q0 t0 ha ht (jix_in g) hd (k H locs ls h hl)
theorem J_iast (X : jX F K nL cc Ts own tys) (q0 t0 : Nat) {a : Nat} {cA : ClassId} {n : Nat} {f : Int → Int} {ws' : va_W} (ha : ws[q0]? = some (a, .inl (cA, n, .inl (zA f)))) (ht : tys[t0]? = some (cA, .int)) {i x : Int} (g : jix i n = true) (hd : decode cc pc = .ok (.iastore, 1)) (hw' : ws.set q0 (a, .inl (cA, n, .inl (zA (upZ f i x)))) = ws') (kk : J K nL R false cells slots ws' lv rest (pc + 1)) : J K nL R false cells slots ws lv (.int (zI x) :: .int (zI i) :: .ref a :: rest) pc := by
  subst hw'
  rw [← zA_up g] at kk
  exact fun H locs ls h hl => va_iast (D := jD K) (cl := vwCl) (tys := tys) X.1.1 X.1.2.1 X.2.1 h.1 h.2.1 h.2.2.1 q0 t0 ha ht (jix_in g) hd (fun H1 locs1 hP hD hS => kk H1 locs1 ls ⟨hP, hD, hS, fun z => by cases z⟩ hl)
theorem J_bast (X : jX F K nL cc Ts own tys) (q0 t0 : Nat) {a : Nat} {cA : ClassId} {n : Nat} {f : Int → Int} {ws' : va_W} (ha : ws[q0]? = some (a, .inl (cA, n, .inl (zA f)))) (ht : tys[t0]? = some (cA, .byte)) {i x : Int} (g : jix i n = true) (hd : decode cc pc = .ok (.bastore, 1)) (hw' : ws.set q0 (a, .inl (cA, n, .inl (zA (upZ f i (j_b8 x))))) = ws') (kk : J K nL R false cells slots ws' lv rest (pc + 1)) : J K nL R false cells slots ws lv (.int (zI x) :: .int (zI i) :: .ref a :: rest) pc := by
  subst hw'
  rw [← zA_up g, ← j_nar] at kk
  exact fun H locs ls h hl => va_bast (D := jD K) (cl := vwCl) (tys := tys) X.1.1 X.1.2.1 X.2.1 h.1 h.2.1 h.2.2.1 q0 t0 ha ht (jix_in g) hd (fun H1 locs1 hP hD hS => kk H1 locs1 ls ⟨hP, hD, hS, fun z => by cases z⟩ hl)
theorem J_last (X : jX F K nL cc Ts own tys) (q0 t0 : Nat) {a : Nat} {cA : ClassId} {n : Nat} {f : Int → Int} {ws' : va_W} (ha : ws[q0]? = some (a, .inl (cA, n, .inr (.inl (zB f))))) (ht : tys[t0]? = some (cA, .long)) {i x : Int} (g : jix i n = true) (hd : decode cc pc = .ok (.lastore, 1)) (hw' : ws.set q0 (a, .inl (cA, n, .inr (.inl (zB (upZ f i x))))) = ws') (kk : J K nL R false cells slots ws' lv rest (pc + 1)) : J K nL R false cells slots ws lv (.long (zL x) :: .int (zI i) :: .ref a :: rest) pc := by
  subst hw'
  rw [← zB_up g] at kk
  exact fun H locs ls h hl => va_last (D := jD K) (cl := vwCl) (tys := tys) X.1.1 X.1.2.1 X.2.1 h.1 h.2.1 h.2.2.1 q0 t0 ha ht (jix_in g) hd (fun H1 locs1 hP hD hS => kk H1 locs1 ls ⟨hP, hD, hS, fun z => by cases z⟩ hl)
theorem J_alen (X : jX F K nL cc Ts own tys) (q0 t0 : Nat) {a : Nat} {cA : ClassId} {x : vp_A} {n : Int} (ha : ws[q0]? = some (a, .inl (cA, x))) {ty : FieldType} (ht : tys[t0]? = some (cA, ty)) (hn : (x.1 : Int) = n) (hd : decode cc pc = .ok (.arraylength, 1)) (k : J K nL R pu cells slots ws lv (.int (zI n) :: rest) (pc + 1)) : J K nL R pu cells slots ws lv (.ref a :: rest) pc := by
  subst hn
  exact fun H locs ls h hl => va_alen (D := jD K) (cl := vwCl) (tys := tys) X.1.1 X.1.2.1 X.2.1 h.1 q0 t0 ha ht (show Int32.ofNat x.1 = zI x.1 from Int32.ofInt_eq_ofNat.symm) hd (k H locs ls h hl)
theorem J_mmax (X : jX F K nL cc Ts own tys) {index : Nat} {x y : Int} (g0 : jr2 x y = true) (h1 : Cond.methodLink own index Lib.Math.max.name ∈ Ts) (h2 : Cond.static Lib.Math.max.name ∈ Ts) (h3 : Cond.initialized "java/lang/Math" ∈ Ts) (h4 : Cond.code Lib.Math.max.name Lib.Math.max.code 2 (some .int) ∈ Ts) (hfr : 1 ≤ R.frames) (hlo : (rest.map fun v => v.category).sum + 13 ≤ R.locals) (hc : cells ≤ R.cells) (hs : slots ≤ R.slots) (hd : decode cc pc = .ok (.invokestatic index, 3)) (k : J K nL R pu cells slots ws lv (.int (zI (max x y)) :: rest) (pc + 3)) : J K nL R pu cells slots ws lv (.int (zI y) :: .int (zI x) :: rest) pc := by
  have g := jr2_use g0
  have e : zI (max x y) = if zI x < zI y then zI y else zI x := by
    have q := zI_lt g.1 g.2
    by_cases w : x < y
    · rw [if_pos (q.mpr w), show max x y = y by omega]
    · rw [if_neg (fun z => w (q.mp z)), show max x y = x by omega]
  rw [e] at k
  exact fun H locs ls h hl => va_mmax X.1.1 X.1.2.1 (X.1.2.2.1.trans hl.1.symm) X.1.2.2.2.1 (X.1.2.2.2.2 _ h1) (X.1.2.2.2.2 _ h2) (X.1.2.2.2.2 _ h3) (X.1.2.2.2.2 _ h4) hfr hlo hc hs hd (k H locs ls h hl)
theorem J_mmin (X : jX F K nL cc Ts own tys) {index : Nat} {x y : Int} (g0 : jr2 x y = true) (h1 : Cond.methodLink own index Lib.Math.min.name ∈ Ts) (h2 : Cond.static Lib.Math.min.name ∈ Ts) (h3 : Cond.initialized "java/lang/Math" ∈ Ts) (h4 : Cond.code Lib.Math.min.name Lib.Math.min.code 2 (some .int) ∈ Ts) (hfr : 1 ≤ R.frames) (hlo : (rest.map fun v => v.category).sum + 13 ≤ R.locals) (hc : cells ≤ R.cells) (hs : slots ≤ R.slots) (hd : decode cc pc = .ok (.invokestatic index, 3)) (k : J K nL R pu cells slots ws lv (.int (zI (min x y)) :: rest) (pc + 3)) : J K nL R pu cells slots ws lv (.int (zI y) :: .int (zI x) :: rest) pc := by
  have g := jr2_use g0
  have e : zI (min x y) = if zI y < zI x then zI y else zI x := by
    have q := zI_lt g.2 g.1
    by_cases w : y < x
    · rw [if_pos (q.mpr w), show min x y = y by omega]
    · rw [if_neg (fun z => w (q.mp z)), show min x y = x by omega]
  rw [e] at k
  exact fun H locs ls h hl => va_mmin X.1.1 X.1.2.1 (X.1.2.2.1.trans hl.1.symm) X.1.2.2.2.1 (X.1.2.2.2.2 _ h1) (X.1.2.2.2.2 _ h2) (X.1.2.2.2.2 _ h3) (X.1.2.2.2.2 _ h4) hfr hlo hc hs hd (k H locs ls h hl)
theorem J_mmaxl (X : jX F K nL cc Ts own tys) {index : Nat} {x y : Int} (g0 : jl2 x y = true) (h1 : Cond.methodLink own index Lib.MathLoose.max_long.x ∈ Ts) (h2 : Cond.static Lib.MathLoose.max_long.x ∈ Ts) (h3 : Cond.initialized "java/lang/Math" ∈ Ts) (h4 : Cond.code Lib.MathLoose.max_long.x Lib.MathLoose.max_long.code 4 (some .long) ∈ Ts) (hfr : 1 ≤ R.frames) (hlo : (rest.map fun v => v.category).sum + 15 ≤ R.locals) (hc : cells ≤ R.cells) (hs : slots ≤ R.slots) (hd : decode cc pc = .ok (.invokestatic index, 3)) (k : J K nL R pu cells slots ws lv (.long (zL (max x y)) :: rest) (pc + 3)) : J K nL R pu cells slots ws lv (.long (zL y) :: .long (zL x) :: rest) pc := by
  have g := jl2_use g0
  have e : zL (max x y) = if zL y < zL x then zL x else zL y := by
    have q := zL_lt g.2 g.1
    by_cases w : y < x
    · rw [if_pos (q.mpr w), show max x y = x by omega]
    · rw [if_neg (fun z => w (q.mp z)), show max x y = y by omega]
  rw [e] at k
  exact fun H locs ls h hl => va_mmax_long X.1.1 X.1.2.1 (X.1.2.2.1.trans hl.1.symm) X.1.2.2.2.1 (X.1.2.2.2.2 _ h1) (X.1.2.2.2.2 _ h2) (X.1.2.2.2.2 _ h3) (X.1.2.2.2.2 _ h4) hfr hlo hc hs hd (k H locs ls h hl)
theorem J_mminl (X : jX F K nL cc Ts own tys) {index : Nat} {x y : Int} (g0 : jl2 x y = true) (h1 : Cond.methodLink own index Lib.MathLoose.min_long.x ∈ Ts) (h2 : Cond.static Lib.MathLoose.min_long.x ∈ Ts) (h3 : Cond.initialized "java/lang/Math" ∈ Ts) (h4 : Cond.code Lib.MathLoose.min_long.x Lib.MathLoose.min_long.code 4 (some .long) ∈ Ts) (hfr : 1 ≤ R.frames) (hlo : (rest.map fun v => v.category).sum + 15 ≤ R.locals) (hc : cells ≤ R.cells) (hs : slots ≤ R.slots) (hd : decode cc pc = .ok (.invokestatic index, 3)) (k : J K nL R pu cells slots ws lv (.long (zL (min x y)) :: rest) (pc + 3)) : J K nL R pu cells slots ws lv (.long (zL y) :: .long (zL x) :: rest) pc := by
  have g := jl2_use g0
  have e : zL (min x y) = if zL y < zL x then zL y else zL x := by
    have q := zL_lt g.2 g.1
    by_cases w : y < x
    · rw [if_pos (q.mpr w), show min x y = y by omega]
    · rw [if_neg (fun z => w (q.mp z)), show min x y = x by omega]
  rw [e] at k
  exact fun H locs ls h hl => va_mmin_long X.1.1 X.1.2.1 (X.1.2.2.1.trans hl.1.symm) X.1.2.2.2.1 (X.1.2.2.2.2 _ h1) (X.1.2.2.2.2 _ h2) (X.1.2.2.2.2 _ h3) (X.1.2.2.2.2 _ h4) hfr hlo hc hs hd (k H locs ls h hl)
theorem J_copyi (X : jX F K nL cc Ts own tys) {index : Nat} {ws' : va_W} (h1 : Cond.methodLink own index arraycopyName ∈ Ts) (h2 : Cond.native arraycopyName ∈ Ts) (h3 : Cond.static arraycopyName ∈ Ts) (h4 : Cond.initialized "java/lang/System" ∈ Ts) (q0 q1 t0 t1 : Nat) {a0 a : Nat} {c0 c1 : ClassId} {n0 n1 : Nat} {f g : Int → Int} {ty : FieldType} (ha0 : ws[q0]? = some (a0, .inl (c0, n0, .inl (zA f)))) (ha1 : ws[q1]? = some (a, .inl (c1, n1, .inl (zA g)))) (ht0 : tys[t0]? = some (c0, ty)) (ht1 : tys[t1]? = some (c1, ty)) (hprim : refKind ty = false) {sp dp n : Int} (hg : jcp sp dp n n0 n1 = true) (hfit : ∀ z : Int32, fits ty (.int z) = true) (hfr : 1 ≤ R.frames) (hlo : (rest.map fun v => v.category).sum + (nativeFrameWords "java/lang/System" "arraycopy" 5 + 11) ≤ R.locals) (hd : decode cc pc = .ok (.invokestatic index, 3)) (hw' : ws.set q1 (a, .inl (c1, n1, .inl (zA (cpZ f g sp dp n)))) = ws') (kk : J K nL R false cells slots ws' lv rest (pc + 3)) : J K nL R false cells slots ws lv (.int (zI n) :: .int (zI dp) :: .ref a :: .int (zI sp) :: .ref a0 :: rest) pc := by
  subst hw'
  obtain ⟨g1, g2, g3, g4, g5, e1, e2, e3⟩ := jcp_use hg
  obtain ⟨r1, r2, r3, -⟩ := jcp_iff.mp hg
  rw [← zA_cp r1 r2 r3, ← e1, ← e2, ← e3] at kk
  exact fun H locs ls h hl => va_copyi (D := jD K) (cl := vwCl) (tys := tys) X.1.1 X.1.2.1 (X.1.2.2.1.trans hl.1.symm) X.1.2.2.2.1 (X.1.2.2.2.2 _ h1) (X.1.2.2.2.2 _ h2) (X.1.2.2.2.2 _ h3) (X.1.2.2.2.2 _ h4) X.2.1 h.1 h.2.1 h.2.2.1 q0 q1 t0 t1 ha0 ha1 ht0 ht1 hprim g1 g2 g3 g4 g5 (fun i _ => hfit _) hfr hlo hd (fun H1 locs1 hP hD hS => kk H1 locs1 ls ⟨hP, hD, hS, fun z => by cases z⟩ hl)
theorem J_copyl (X : jX F K nL cc Ts own tys) {index : Nat} {ws' : va_W} (h1 : Cond.methodLink own index arraycopyName ∈ Ts) (h2 : Cond.native arraycopyName ∈ Ts) (h3 : Cond.static arraycopyName ∈ Ts) (h4 : Cond.initialized "java/lang/System" ∈ Ts) (q0 q1 t0 t1 : Nat) {a0 a : Nat} {c0 c1 : ClassId} {n0 n1 : Nat} {f g : Int → Int} {ty : FieldType} (ha0 : ws[q0]? = some (a0, .inl (c0, n0, .inr (.inl (zB f))))) (ha1 : ws[q1]? = some (a, .inl (c1, n1, .inr (.inl (zB g))))) (ht0 : tys[t0]? = some (c0, ty)) (ht1 : tys[t1]? = some (c1, ty)) (hprim : refKind ty = false) {sp dp n : Int} (hg : jcp sp dp n n0 n1 = true) (hfit : ∀ z : Int64, fits ty (.long z) = true) (hfr : 1 ≤ R.frames) (hlo : (rest.map fun v => v.category).sum + (nativeFrameWords "java/lang/System" "arraycopy" 5 + 11) ≤ R.locals) (hd : decode cc pc = .ok (.invokestatic index, 3)) (hw' : ws.set q1 (a, .inl (c1, n1, .inr (.inl (zB (cpZ f g sp dp n))))) = ws') (kk : J K nL R false cells slots ws' lv rest (pc + 3)) : J K nL R false cells slots ws lv (.int (zI n) :: .int (zI dp) :: .ref a :: .int (zI sp) :: .ref a0 :: rest) pc := by
  subst hw'
  obtain ⟨g1, g2, g3, g4, g5, e1, e2, e3⟩ := jcp_use hg
  obtain ⟨r1, r2, r3, -⟩ := jcp_iff.mp hg
  rw [← zB_cp r1 r2 r3, ← e1, ← e2, ← e3] at kk
  exact fun H locs ls h hl => va_copyl (D := jD K) (cl := vwCl) (tys := tys) X.1.1 X.1.2.1 (X.1.2.2.1.trans hl.1.symm) X.1.2.2.2.1 (X.1.2.2.2.2 _ h1) (X.1.2.2.2.2 _ h2) (X.1.2.2.2.2 _ h3) (X.1.2.2.2.2 _ h4) X.2.1 h.1 h.2.1 h.2.2.1 q0 q1 t0 t1 ha0 ha1 ht0 ht1 hprim g1 g2 g3 g4 g5 (fun i _ => hfit _) hfr hlo hd (fun H1 locs1 hP hD hS => kk H1 locs1 ls ⟨hP, hD, hS, fun z => by cases z⟩ hl)
end JL
-- contracts
def jRet : Option Value → Instr
  | none => .return_
  | some (.int _) => .ireturn
  | some (.long _) => .lreturn
  | some _ => .areturn
def jRok (ret : Option FieldType) : Option Value → Prop
  | none => ret = none
  | some (.int z) => ∃ ty, ret = some ty ∧ narrow ty (.int z) = .int z
  | some (.long _) => ret = some .long
  | some (.ref _) => ∃ rt, ret = some rt ∧ ((∃ n, rt = .object n) ∨ ∃ t, rt = .array t)
  | some _ => False
/-- called with av where the heap holds ws: it answers v, the heap then holds ws'; nothing else of what was there changed; a 'pu' method changes nothing at all -/
def jQc (pu : Bool) (D : va_G) (ws : va_W) (v : Option Value) (ws' : va_W) (sz : Nat) : Array Value → State → Outcome → State → Prop := fun _ st o t => o = .returned v ∧ va_P D vwCl ws' t.heap ∧ va_D (va_A ws sz) ws' ∧ va_F (va_A ws sz) st t ∧ (pu = true → t.heap = st.heap)
def CT (F : jFt) (pu : Bool) (l : Launch) (D : va_G) (tys : List (ClassId × FieldType)) (y : MethodName) (wd : List Cond) (rm : Room) (av : List Value) (ws : va_W) (v : Option Value) (ws' : va_W) (mc ms : Nat) : Prop :=
  ∀ sz : Nat, Met l y wd rm (va_Pc av (fun U => U.heap.size = sz ∧ va_P D vwCl ws U.heap ∧ va_K D vwCl tys U ∧ va_D (fun _ => True) ws ∧ F (va_A ws sz) U U.heap))
    (jQc pu D ws v ws' sz) mc ms (fun q => pu = false ∧ va_A ws sz q)
/-- the end of a method, as the walk of its body uses it -/
def jE (K : jK) (cc : ByteArray) (ret : Option FieldType) (R : Room) (pu : Bool) (mc ms : Nat) (v : Option Value) (ws' : va_W) : Prop :=
  ∀ (H : Heap) (locs : List Loc) (ls : Array Slot) (pc : Nat), jRok ret v → decode cc pc = .ok (jRet v, 1) → jI K pu ws' H locs → jW K R H locs mc ms (F0 (jM K) pc ls v.toList)
theorem J_ret {K : jK} {nL : Nat} {R : Room} {pu : Bool} {cells slots : Nat} {lv : List (Nat × Value)} {pc : Nat} {cc : ByteArray} {ret : Option FieldType} {mc ms : Nat} {v : Option Value} {ws' : va_W} {st : List Value} (E : jE K cc ret R pu mc ms v ws') (hn : jRok ret v) (hd : decode cc pc = .ok (jRet v, 1)) (h1 : cells ≤ mc) (h2 : slots ≤ ms) (hst : st = v.toList) : J K nL R pu cells slots ws' lv st pc := by
  subst hst
  exact fun H locs ls h _ => W.widen h1 h2 (E H locs ls pc hn hd h)
theorem Met_ofWF {l : Launch} {y : MethodName} {ws ws' : List Cond} {rm : Room} {Pc : Array Value → State → Prop} {Qc : Array Value → State → Outcome → State → Prop} {mc ms : Nat} {free : Addr → Prop} {cc : ByteArray} {maxL : Nat} {ret : Option FieldType}
    (hy : plainFor y = true) (hw : ws = Cond.code y cc maxL ret :: ws')
    (body : ∀ p e s m args below meth c s₁, BodyLoose p l y (headSpec ws rm) cc maxL ret e s m args below meth c s₁ → c.maxLocals = maxL → Pc args s →
      W p l e (headSpec ws rm).room s m args below meth c s.heap [] 0 0 (MQ below Qc args s mc ms free) (entryFrame m args maxL)) : Met l y ws rm Pc Qc mc ms free := by
  refine MetFree.of_bodySF (code := cc) (maxLocals := maxL) (ret := ret) hy ?_ ?_
  · intro args s m h hn
    obtain ⟨meth, c, h1, h2, h3, h4, h5, h6, -, -⟩ := Cond.code_spec hn (atoms_spec (ws := ws) h _ (by rw [hw]; exact List.mem_cons_self))
    exact ⟨meth, c, h1, h2, h3, h4, h5, h6⟩
  · intro p e s m args below meth c s₁ B hml hP _
    have hh0 : s₁.heap = s.heap := by rw [B.state]; rfl
    obtain ⟨t, a1, o, b1, b2, b3⟩ := body p e s m args below meth c s₁ B hml hP s₁ hh0 (Stand.of_body B)
    exact ⟨t, o, a1, b1, b2, ⟨b3.1, b3.2⟩⟩
theorem CT_of_J {F : jFt} {pu : Bool} {l : Launch} {D : va_G} {tys : List (ClassId × FieldType)} {y : MethodName} {wd wd' : List Cond} {rm : Room} {av : List Value} {ws : va_W} {v : Option Value} {ws' : va_W} {mc ms : Nat} {cc : ByteArray} {maxL : Nat} {ret : Option FieldType}
    (hFk : jFk F) (hy : plainFor y = true) (hw : wd = Cond.code y cc maxL ret :: wd') (hlen : (lg_sl av).length ≤ maxL)
    (body : ∀ K : jK, jL K = l → jD K = D → jX F K maxL cc wd y.cls tys → jE K cc ret rm pu mc ms v ws' → J K maxL rm pu 0 0 ws (lv_args 0 av) [] 0) : CT F pu l D tys y wd rm av ws v ws' mc ms := by
  intro sz
  refine Met_ofWF (cc := cc) (maxL := maxL) (ret := ret) hy hw ?_
  intro p e s m args below meth c s₁ B hml hv
  obtain ⟨rfl, hsz, hP, hK, hD0, hF0⟩ := hv
  have hts := atoms_spec (ws := wd) B.pre
  have hown : s.vm.findClass y.cls = some m.cls := findClass_of_methodNamed B.named
  have hlocks := B.notSynchronized
  subst hsz
  have hD := hD0.self (sz := s.heap.size)
  have hl := lv_entry av (n := maxL) hlen
  rw [lg_entry_eq]
  generalize (lg_sl av ++ List.replicate (maxL - (lg_sl av).length) Slot.unset).toArray = ls at hl ⊢
  have hE : jE ((p, l, e, s, m), (av.toArray, below, meth, c), (D, va_A ws s.heap.size, MQ below (jQc pu D ws v ws' s.heap.size) av.toArray s mc ms (fun q => pu = false ∧ va_A ws s.heap.size q))) cc ret rm pu mc ms v ws' := by
    intro H locs ls pc hok hd h
    obtain ⟨hP, hD, hS, hpu⟩ := h
    have hfree : ∀ q ∈ locs, pu = false ∧ va_A ws s.heap.size q.base := by
      intro q hq
      cases pu with
      | false => exact ⟨rfl, hS.2.2 q hq⟩
      | true =>
        have e0 := (hpu rfl).2
        subst e0
        cases hq
    have hq : ∀ t : State, t.heap = H → s.WarmedH t.vm → jQc pu D ws v ws' s.heap.size av.toArray s (.returned v) t :=
      fun t ht _ => ⟨rfl, by rw [ht]; exact hP, hD, hS.F ht, fun z => by rw [ht]; exact (hpu z).1⟩
    cases v with
    | none => exact W.vret (free := fun q => pu = false ∧ va_A ws s.heap.size q) B.exec B.bytes (B.returns.trans hok) hq hfree hd hlocks
    | some w =>
      cases w with
      | int z =>
        obtain ⟨ty, h1, h2⟩ := hok
        exact W.zret (free := fun q => pu = false ∧ va_A ws s.heap.size q) B.exec B.bytes (B.returns.trans h1) h2 hq hfree hd hlocks
      | long z => exact W.lret (free := fun q => pu = false ∧ va_A ws s.heap.size q) B.exec B.bytes (B.returns.trans hok) hq hfree hd hlocks
      | ref z =>
        obtain ⟨rt, h1, h2⟩ := hok
        exact W.aret (free := fun q => pu = false ∧ va_A ws s.heap.size q) B.exec B.bytes (B.returns.trans h1) h2 (Or.inr ⟨z, rfl⟩) hq hfree hd hlocks
      | _ => exact False.elim hok
  exact body ((p, l, e, s, m), (av.toArray, below, meth, c), (D, va_A ws s.heap.size, MQ below (jQc pu D ws v ws' s.heap.size) av.toArray s mc ms (fun q => pu = false ∧ va_A ws s.heap.size q))) rfl rfl
    ⟨⟨B.exec, B.bytes, hml, hown, hts⟩, hK, fun q h => Or.inr h, hFk, hF0⟩ hE s.heap [] ls ⟨hP, hD, va_S.rf, fun _ => ⟨rfl, rfl⟩⟩ hl
section JC
variable {F : jFt} {K : jK} {nL : Nat} {R : Room} {pu : Bool} {cells slots : Nat} {ws : va_W} {lv : List (Nat × Value)} {st rest : List Value} {pc : Nat} {cc : ByteArray} {Ts : List Cond} {own : String} {tys : List (ClassId × FieldType)}
theorem j_fm {α : Type} {is : List Nat} {f : Nat → Option α} {l : List α} (h : is.map f = l.map some) : is.filterMap f = l := by
  have e : is.filterMap f = (is.map f).filterMap id := by rw [List.filterMap_map]; rfl
  rw [e, h, List.filterMap_map]
  simp
def jRun (K : jK) (R : Room) (H : Heap) (locs : List Loc) (cells slots mc ms : Nat) (g : JFrame) (rest : List Value) (Qa : State → Outcome → State → Prop) (free : Addr → Prop) : Prop :=
  va_Run (jP K) (jL K) (jEv K) R (jS K) (jM K) (jA K) (jB K) (jMt K) (jC K) H locs cells slots mc ms g rest Qa free
/-- behind a call that changed nothing -/
theorem J_afterP {D : va_G} {wc : va_W} {v : Option Value} {av : Array Value} (hr : ∀ (H : Heap) (locs : List Loc) (ls : Array Slot), jI K pu ws H locs → lv_has ls nL lv → jRun K R H locs cells slots 0 0 (F0 (jM K) pc ls st) rest (jQc true D wc v wc H.size av) (fun q => true = false ∧ va_A wc H.size q))
    (k : J K nL R pu cells slots ws lv (v.toList ++ rest) (pc + 3)) : J K nL R pu cells slots ws lv st pc := by
  intro H locs ls h hl T hT X
  obtain ⟨v', st₀, t, T', L, h0, X2, hL, e1, e2, ⟨hv, hP', hD', hF, hp⟩, hgo⟩ := hr H locs ls h hl T hT X
  cases hv
  have hh : T'.heap = H := by rw [e1, hp rfl, h0]
  obtain ⟨t2, a1, b1⟩ := k H locs ls h hl T' hh (Stand.forget X2 (fun q hq => absurd (hL q hq).1 (by decide)))
  exact ⟨t2, hgo t2 a1, b1⟩
/-- behind a call that may have written its own cells -/
theorem J_afterI (X : jX F K nL cc Ts own tys) {pq : Bool} {wc wc' ws' : va_W} {v : Option Value} {av : Array Value} {mc ms : Nat}
    (hr : ∀ (H : Heap) (locs : List Loc) (ls : Array Slot), jI K false ws H locs → lv_has ls nL lv → jRun K R H locs cells slots mc ms (F0 (jM K) pc ls st) rest (jQc pq (jD K) wc v wc' H.size av) (fun q => pq = false ∧ va_A wc H.size q))
    (isC isR isN : List Nat) (hC : isC.map (fun i => ws[i]?) = wc.map some) (hR : isR.map (fun i => ws[i]?) = (isR.filterMap (fun i => ws[i]?)).map some) (hn : va_nd isR = true) (hdis : ∀ i ∈ isR, i ∉ isC) (hN : isN.map (fun i => (isR.filterMap (fun i => ws[i]?) ++ wc')[i]?) = ws'.map some) (hnN : va_nd isN = true)
    (k : J K nL R false (cells + mc) (slots + ms) ws' lv (v.toList ++ rest) (pc + 3)) : J K nL R false cells slots ws lv st pc := by
  intro H locs ls h hl T hT X0
  obtain ⟨v', st₀, t, T', L, h0, X2, hL, e1, e2, ⟨hv, hP1, hD1, ⟨hz, hk⟩, hp⟩, hgo⟩ := hr H locs ls h hl T hT X0
  cases hv
  obtain ⟨hP, hD, hS, hpu⟩ := h
  rw [h0] at hz hk
  have hFc := va_free (wc := wc) hD hS X.2.2.1 isC hC
  obtain ⟨hP2, hD2⟩ := va_join (wr := isR.filterMap (fun i => ws[i]?)) (w1 := wc') hP hD isC isR hC hR hn hdis hk hFc hP1 hD1
  have hP3 := hP2.sub isN (j_fm hN)
  have hD3 := hD2.sub isN hnN hN
  have hS3 : va_S (jAr K) (jS K).heap T'.heap (locs ++ L) := ⟨Nat.le_trans hS.1 (by rw [e1]; exact hz), fun q h1 h2 => by
      rw [e1, hk q (Nat.lt_of_lt_of_le h1 hS.1) (fun z => h2 (hFc q z))]; exact hS.2.1 q h1 h2, fun q hq => by
      rcases List.mem_append.mp hq with h | h
      · exact hS.2.2 q h
      · exact hFc _ (hL q h).2⟩
  obtain ⟨t2, a1, b1⟩ := k T'.heap (locs ++ L) ls ⟨by rw [e1]; exact hP3, hD3, hS3, fun z => by cases z⟩ hl T' rfl X2
  exact ⟨t2, hgo t2 a1, b1⟩
theorem J_afterI0 (X : jX F K nL cc Ts own tys) {pq : Bool} {wc wc' ws' : va_W} {v : Option Value} {av : Array Value}
    (hr : ∀ (H : Heap) (locs : List Loc) (ls : Array Slot), jI K false ws H locs → lv_has ls nL lv → jRun K R H locs cells slots 0 0 (F0 (jM K) pc ls st) rest (jQc pq (jD K) wc v wc' H.size av) (fun q => pq = false ∧ va_A wc H.size q))
    (isC isR isN : List Nat) (hC : isC.map (fun i => ws[i]?) = wc.map some) (hR : isR.map (fun i => ws[i]?) = (isR.filterMap (fun i => ws[i]?)).map some) (hn : va_nd isR = true) (hdis : ∀ i ∈ isR, i ∉ isC) (hN : isN.map (fun i => (isR.filterMap (fun i => ws[i]?) ++ wc')[i]?) = ws'.map some) (hnN : va_nd isN = true)
    (k : J K nL R false cells slots ws' lv (v.toList ++ rest) (pc + 3)) : J K nL R false cells slots ws lv st pc := J_afterI X hr isC isR isN hC hR hn hdis hN hnN k
theorem j_pre (hk : jFk F) {D : va_G} {wc : va_W} {av : List Value} {sz : Nat} : FrameBlind (va_Pc av (fun U => U.heap.size = sz ∧ va_P D vwCl wc U.heap ∧ va_K D vwCl tys U ∧ va_D (fun _ => True) wc ∧ F (va_A wc sz) U U.heap)) :=
  fun a U g mk q => by obtain ⟨q0, q1, qP, qK, qD, qF⟩ := q; exact ⟨q0, q1, qP, va_K.moved (u := U) (U := U.calling g mk a) (Vm.Alike.refl U.vm) qK, qD, hk.2.1 _ U _ _ rfl qF⟩
theorem jrunV (X : jX F K nL cc Ts own tys) {pq : Bool} {y : MethodName} {wd wd' : List Cond} {rm : Room} {b : Nat} {As : List Value} {wc wc' : va_W} {v : Option Value} {mc ms index mL n : Nat} {C : String} {bytes : ByteArray} {ret : Option FieldType} {G : jFt} (hM : CT G pq (jL K) (jD K) tys y wd rm (.ref b :: As) wc v wc' mc ms) (hGk : jFk G) (hGF : ∀ (A : Nat → Prop) (U : State) (H : Heap), F A U H → G A U H)
    (hG : GoodIn Ts (wsV own index C y wd)) (hw : wd = Cond.code y bytes mL ret :: wd') (hrc : rm.cells = mc) (hrs : rm.slots = ms) (hd : y.cls = C ∧ y.cls ≠ "java/lang/invoke/MethodHandle" ∧ y.cls ≠ "java/lang/invoke/VarHandle" ∧ (parseMethodDescriptor y.desc).map (fun d => d.parameters.length) = some n) (hR : rm.frames + 1 ≤ R.frames ∧ 8 + (mL + 11) + rm.locals ≤ R.locals)
    (isC : List Nat) (hC : isC.map (fun i => ws[i]?) = wc.map some) (hnC : va_nd isC = true) (q0 ci : Nat) {fs : List Value} {T : u_T} {N : Nat} (he : wc[q0]? = some (b, .inr (ci, fs))) (hcl : vwCl[ci]? = some (C, T, N)) (hn : As.length = n) (hst : st = As.reverse ++ .ref b :: rest) (hrest : (rest.map fun v => v.category).sum ≤ 8) (hdg : decode cc pc = .ok (.invokevirtual index, 3)) (hf : cells + mc ≤ R.cells ∧ slots + ms ≤ R.slots) :
    ∀ (H : Heap) (locs : List Loc) (ls : Array Slot), jI K pu ws H locs → lv_has ls nL lv → jRun K R H locs cells slots mc ms (F0 (jM K) pc ls st) rest (jQc pq (jD K) wc v wc' H.size (Value.ref b :: As).toArray) (fun q => pq = false ∧ va_A wc H.size q) := by
  intro H locs ls h hl
  subst hst
  have hPc := h.1.sub isC (j_fm hC)
  have hDc := h.2.1.sub isC hnC hC
  have hFc := va_free (wc := wc) h.2.1 h.2.2.1 X.2.2.1 isC hC
  have hFF := hGF _ _ _ (X.2.2.2.1.2.2.2 _ _ _ _ hFc (X.2.2.2.1.2.2.1 _ _ _ H h.2.2.1.2.1 X.2.2.2.2))
  exact va_runV X.1 (hM H.size) (cwV n X.1.2.2.2.2 hG hw hrc hrs hd hR) ⟨j_pre hGk, va_recv X.2.1 hPc hcl he, fun U hU hW => ⟨rfl, by rw [hU], by rw [hU]; exact hPc, va_K.moved hW.alike X.2.1, hDc.weaken (fun _ _ _ _ => trivial), by rw [hU]; exact hGk.1 _ _ _ _ hW hFF⟩⟩ rfl hn hl.1 rfl (lv_room hrest) hdg hf
theorem jrunS (X : jX F K nL cc Ts own tys) {pq : Bool} {y : MethodName} {wd wd' : List Cond} {rm : Room} {As : List Value} {wc wc' : va_W} {v : Option Value} {mc ms index mL n : Nat} {bytes : ByteArray} {ret : Option FieldType} {G : jFt} (hM : CT G pq (jL K) (jD K) tys y wd rm As wc v wc' mc ms) (hGk : jFk G) (hGF : ∀ (A : Nat → Prop) (U : State) (H : Heap), F A U H → G A U H)
    (hG : GoodIn Ts (va_wsS own index y wd)) (hw : wd = Cond.code y bytes mL ret :: wd') (hrc : rm.cells = mc) (hrs : rm.slots = ms) (hd : y.cls ≠ "java/lang/invoke/MethodHandle" ∧ y.cls ≠ "java/lang/invoke/VarHandle" ∧ (parseMethodDescriptor y.desc).map (fun d => d.parameters.length) = some n) (hR : rm.frames + 1 ≤ R.frames ∧ 8 + (mL + 11) + rm.locals ≤ R.locals)
    (isC : List Nat) (hC : isC.map (fun i => ws[i]?) = wc.map some) (hnC : va_nd isC = true) (hn : As.length = n) (hst : st = As.reverse ++ rest) (hrest : (rest.map fun v => v.category).sum ≤ 8) (hdg : decode cc pc = .ok (.invokestatic index, 3)) (hf : cells + mc ≤ R.cells ∧ slots + ms ≤ R.slots) :
    ∀ (H : Heap) (locs : List Loc) (ls : Array Slot), jI K pu ws H locs → lv_has ls nL lv → jRun K R H locs cells slots mc ms (F0 (jM K) pc ls st) rest (jQc pq (jD K) wc v wc' H.size As.toArray) (fun q => pq = false ∧ va_A wc H.size q) := by
  intro H locs ls h hl
  subst hst
  have hPc := h.1.sub isC (j_fm hC)
  have hDc := h.2.1.sub isC hnC hC
  have hFc := va_free (wc := wc) h.2.1 h.2.2.1 X.2.2.1 isC hC
  have hFF := hGF _ _ _ (X.2.2.2.1.2.2.2 _ _ _ _ hFc (X.2.2.2.1.2.2.1 _ _ _ H h.2.2.1.2.1 X.2.2.2.2))
  exact va_runS X.1 (hM H.size) (va_cwS n X.1.2.2.2.2 hG hw hrc hrs hd hR) ⟨j_pre hGk, fun U hU hW => ⟨rfl, by rw [hU], by rw [hU]; exact hPc, va_K.moved hW.alike X.2.1, hDc.weaken (fun _ _ _ _ => trivial), by rw [hU]; exact hGk.1 _ _ _ _ hW hFF⟩⟩ rfl hn hl.1 rfl (lv_room hrest) hdg hf
end JC
