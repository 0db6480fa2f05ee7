set_option maxRecDepth 100000 in
def tw_wi (Fm Cn : Int → Int) (q : Int) : Int := if Fm q = 1 then 2 * Cn q else if Fm q = 0 ∨ Fm q = 2 then Cn q else 0
set_option maxRecDepth 100000 in
def tw_ow (Fm Cn : Int → Int) (q : Int) : Int := if Fm q = 4 then Cn q else 0
set_option maxRecDepth 100000 in
def tw_fw (Nd : Int → Int) (q : Int) : Nat → Int
  | 0 => q + 1
  | j + 1 => tw_fw Nd q j + Nd (tw_fw Nd q j)
set_option maxRecDepth 100000 in
def tw_dm (Nd Dp : Int → Int) (q : Int) : Nat → Int
  | 0 => 0
  | j + 1 => max (tw_dm Nd Dp q j) (Dp (tw_fw Nd q j))
set_option maxRecDepth 100000 in
def tw_ws (Nd Wt : Int → Int) (q : Int) : Nat → Int
  | 0 => 0
  | j + 1 => tw_ws Nd Wt q j + Wt (tw_fw Nd q j)
set_option maxRecDepth 100000 in
def tw_TR (Nd Dp Wt : Int → Int) (w o q : Int) : Prop :=
  0 ≤ w ∧ (∀ j : Nat, (j : Int) < w → tw_fw Nd q j < q + Nd q) ∧ tw_fw Nd q w.toNat = q + Nd q ∧ Dp q = tw_dm Nd Dp q w.toNat + 1 ∧ Wt q = tw_ws Nd Wt q w.toNat + o
set_option maxRecDepth 100000 in
def tw_DN (B top : Int) (Fm Cn Nd Dp Wt : Int → Int) (q : Int) : Prop :=
  1 ≤ Nd q ∧ q + Nd q ≤ top ∧ Nd q ≤ 200 ∧ 1 ≤ Dp q ∧ Dp q ≤ B ∧ 0 ≤ Fm q ∧ Fm q ≤ 4 ∧ 0 ≤ Cn q ∧ Cn q ≤ 200 ∧ 0 ≤ Wt q ∧ Wt q ≤ 64 * Nd q
  ∧ tw_TR Nd Dp Wt (tw_wi Fm Cn q) (tw_ow Fm Cn q) q ∧ (∀ c, q < c → c < q + Nd q → c + Nd c ≤ q + Nd q)
set_option maxRecDepth 100000 in
def tw_DR (B top : Int) (Fm Cn Nd Dp Wt : Int → Int) : Prop := ∀ q, 0 ≤ q → q < top → tw_DN B top Fm Cn Nd Dp Wt q
set_option maxRecDepth 100000 in
theorem tw_fw_ge {B top : Int} {Fm Cn Nd Dp Wt : Int → Int} (h : tw_DR B top Fm Cn Nd Dp Wt) {q : Int} (q0 : 0 ≤ q) (q1 : q < top) : ∀ j : Nat, (j : Int) ≤ tw_wi Fm Cn q → q + 1 + j ≤ tw_fw Nd q j ∧ tw_fw Nd q j ≤ q + Nd q := by
  obtain ⟨n1, n2, -, -, -, -, -, -, -, -, -, ⟨w0, w1, w2, -⟩, -⟩ := h q q0 q1
  intro j
  induction j with
  | zero => intro _; show q + 1 + 0 ≤ q + 1 ∧ q + 1 ≤ q + Nd q; omega
  | succ j ih =>
    intro hj
    have i1 := ih (by omega)
    have i2 := w1 j (by omega)
    have i3 := (h (tw_fw Nd q j) (by omega) (by omega)).1
    refine ⟨?_, ?_⟩
    · show q + 1 + ((j + 1 : Nat) : Int) ≤ tw_fw Nd q j + Nd (tw_fw Nd q j); omega
    · by_cases e : ((j + 1 : Nat) : Int) < tw_wi Fm Cn q
      · have := w1 (j + 1) e; omega
      · have e2 : (tw_wi Fm Cn q).toNat = j + 1 := by omega
        rw [e2] at w2; omega
set_option maxRecDepth 100000 in
theorem tw_tree_ind {B top : Int} {Fm Cn Nd Dp Wt : Int → Int} (h : tw_DR B top Fm Cn Nd Dp Wt) (P : Int → Prop) (st : ∀ q, 0 ≤ q → q < top → (∀ j : Nat, (j : Int) < tw_wi Fm Cn q → P (tw_fw Nd q j)) → P q) : ∀ q, 0 ≤ q → q < top → P q := by
  have key : ∀ (m : Nat) (q : Int), 0 ≤ q → q < top → (Nd q).toNat = m → P q := by
    intro m
    induction m using Nat.strongRecOn with
    | _ m ih =>
      intro q q0 q1 hm
      refine st q q0 q1 (fun j hj => ?_)
      have g := tw_fw_ge h q0 q1 j (by omega)
      have hq := h q q0 q1
      have lt := hq.2.2.2.2.2.2.2.2.2.2.2.1.2.1 j hj
      have lam := hq.2.2.2.2.2.2.2.2.2.2.2.2 (tw_fw Nd q j) (by omega) lt
      have n2 := hq.2.1
      exact ih _ (by omega) (tw_fw Nd q j) (by omega) (by omega) rfl
  exact fun q q0 q1 => key _ q q0 q1 rfl
set_option maxRecDepth 100000 in
theorem tw_child_in {B top : Int} {Fm Cn Nd Dp Wt : Int → Int} (h : tw_DR B top Fm Cn Nd Dp Wt) {q : Int} (q0 : 0 ≤ q) (q1 : q < top) {j : Nat} (hj : (j : Int) < tw_wi Fm Cn q) :
    q + 1 + j ≤ tw_fw Nd q j ∧ tw_fw Nd q j < q + Nd q ∧ tw_fw Nd q j + Nd (tw_fw Nd q j) ≤ q + Nd q ∧ 1 ≤ Nd (tw_fw Nd q j) ∧ q + Nd q ≤ top ∧ tw_fw Nd q (j + 1) = tw_fw Nd q j + Nd (tw_fw Nd q j) := by
  have g := tw_fw_ge h q0 q1 j (by omega)
  have hq := h q q0 q1
  have lt := hq.2.2.2.2.2.2.2.2.2.2.2.1.2.1 j hj
  have lam := hq.2.2.2.2.2.2.2.2.2.2.2.2 (tw_fw Nd q j) (by omega) lt
  have n2 := hq.2.1
  have := (h (tw_fw Nd q j) (by omega) (by omega)).1
  exact ⟨by omega, lt, lam, this, n2, rfl⟩
set_option maxRecDepth 100000 in
def tw_CO (Fm Cn RFm RCn : Int → Int) (q d n : Int) : Prop := 0 ≤ d ∧ d + n ≤ 5000 ∧ ∀ k, 0 ≤ k → k < n → RFm (d + k) = Fm (q + k) ∧ RCn (d + k) = Cn (q + k)
set_option maxRecDepth 100000 in
theorem tw_CO_sub {Fm Cn RFm RCn : Int → Int} {q d n : Int} (h : tw_CO Fm Cn RFm RCn q d n) {o m : Int} (h0 : 0 ≤ o) (h1 : o + m ≤ n) : tw_CO Fm Cn RFm RCn (q + o) (d + o) m := by
  obtain ⟨a, b, c⟩ := h
  refine ⟨by omega, by omega, fun k k0 k1 => ?_⟩
  have := c (o + k) (by omega) (by omega)
  rw [show d + o + k = d + (o + k) by omega, show q + o + k = q + (o + k) by omega]
  exact this
set_option maxRecDepth 100000 in
theorem tw_CO_at {Fm Cn RFm RCn : Int → Int} {q d n : Int} (h : tw_CO Fm Cn RFm RCn q d n) (h1 : 1 ≤ n) : RFm d = Fm q ∧ RCn d = Cn q ∧ 0 ≤ d ∧ d < 5000 := by
  obtain ⟨a, b, c⟩ := h
  have := c 0 (by omega) (by omega)
  rw [show d + 0 = d by omega, show q + 0 = q by omega] at this
  exact ⟨this.1, this.2, by omega, by omega⟩
set_option maxRecDepth 100000 in
theorem tw_within_ok {RFm RCn : Int → Int} {p : Int} (h0 : 0 ≤ p) (h1 : p < 5000) (h2 : 0 ≤ RFm p) (h3 : RFm p ≤ 4) : f_Mod_within RFm RCn p = some (tw_wi RFm RCn p) := by
  unfold f_Mod_within tw_wi
  by_cases e1 : RFm p = 1
  · (repeat (first | refine tw_ite_t (by first | omega | (simp only [tw_gq]; omega)) ?_ | refine tw_ite_f (by first | omega | (simp only [tw_gq]; omega)) ?_)); rw [if_pos e1]
  · by_cases e0 : RFm p = 0
    · (repeat (first | refine tw_ite_t (by first | omega | (simp only [tw_gq]; omega)) ?_ | refine tw_ite_f (by first | omega | (simp only [tw_gq]; omega)) ?_)); rw [if_neg e1, if_pos (by omega)]
    · by_cases e2 : RFm p = 2
      · (repeat (first | refine tw_ite_t (by first | omega | (simp only [tw_gq]; omega)) ?_ | refine tw_ite_f (by first | omega | (simp only [tw_gq]; omega)) ?_)); rw [if_neg e1, if_pos (by omega)]
      · (repeat (first | refine tw_ite_t (by first | omega | (simp only [tw_gq]; omega)) ?_ | refine tw_ite_f (by first | omega | (simp only [tw_gq]; omega)) ?_)); rw [if_neg e1, if_neg (by omega)]
set_option maxRecDepth 100000 in
theorem tw_wi_CO {Fm Cn RFm RCn : Int → Int} {q d n : Int} (h : tw_CO Fm Cn RFm RCn q d n) (h1 : 1 ≤ n) : tw_wi RFm RCn d = tw_wi Fm Cn q := by
  obtain ⟨a, b, -⟩ := tw_CO_at h h1
  unfold tw_wi; rw [a, b]
set_option maxRecDepth 100000 in
theorem tw_wi_le {B top : Int} {Fm Cn Nd Dp Wt : Int → Int} (h : tw_DR B top Fm Cn Nd Dp Wt) {q : Int} (q0 : 0 ≤ q) (q1 : q < top) : 0 ≤ tw_wi Fm Cn q ∧ tw_wi Fm Cn q ≤ Nd q - 1 := by
  have w0 := (h q q0 q1).2.2.2.2.2.2.2.2.2.2.2.1.1
  have := tw_fw_ge h q0 q1 (tw_wi Fm Cn q).toNat (by omega)
  omega
set_option maxRecDepth 100000 in
theorem tw_size_L {B top : Int} {Fm Cn Nd Dp Wt RFm RCn : Int → Int} (h : tw_DR B top Fm Cn Nd Dp Wt) : ∀ q, 0 ≤ q → q < top → ∀ (d n0 left : Int) (N : Nat), tw_CO Fm Cn RFm RCn q (d + n0) (Nd q) → 1 ≤ left → left + 200 * Nd q ≤ 1000000 →
    f_Mod_sizeOfData_L4 RFm RCn d (N + (Nd q).toNat) n0 left = f_Mod_sizeOfData_L4 RFm RCn d N (n0 + Nd q) (left - 1) := by
  refine tw_tree_ind h _ (fun q q0 q1 ih => ?_)
  intro d n0 left N hc l0 l1
  have hq := h q q0 q1
  obtain ⟨n1, n2, n3, -, -, f0, f1, -, -, -, -, ⟨w0, w1, w2, -⟩, -⟩ := hq
  have wl := tw_wi_le h q0 q1
  obtain ⟨c1, c2, c3, c4⟩ := tw_CO_at hc n1
  have e0 : N + (Nd q).toNat = (N + (Nd q - 1).toNat) + 1 := by omega
  rw [e0]
  have s1 : f_Mod_sizeOfData_L4 RFm RCn d ((N + (Nd q - 1).toNat) + 1) n0 left = f_Mod_sizeOfData_L4 RFm RCn d (N + (Nd q - 1).toNat) (n0 + 1) (left + (tw_wi Fm Cn q - 1)) := by
    rw [f_Mod_sizeOfData_L4]
    (first | refine tw_ite_t (by first | omega | (simp only [tw_gq]; omega)) ?_ | refine tw_ite_f (by first | omega | (simp only [tw_gq]; omega)) ?_)
    (first | refine tw_ite_t (by first | omega | (simp only [tw_gq]; omega)) ?_ | refine tw_ite_f (by first | omega | (simp only [tw_gq]; omega)) ?_)
    refine tw_bind_t (tw_within_ok c3 c4 (by omega) (by omega)) ?_
    rw [tw_wi_CO hc n1]
  rw [s1]
  have ch : ∀ j : Nat, (j : Int) ≤ tw_wi Fm Cn q → f_Mod_sizeOfData_L4 RFm RCn d (N + (Nd q - 1).toNat) (n0 + 1) (left + (tw_wi Fm Cn q - 1)) = f_Mod_sizeOfData_L4 RFm RCn d (N + (q + Nd q - tw_fw Nd q j).toNat) (n0 + (tw_fw Nd q j - q)) (left + (tw_wi Fm Cn q - 1) - j) := by
    intro j
    induction j with
    | zero =>
      intro _
      have e1 : tw_fw Nd q 0 = q + 1 := rfl
      rw [e1, show q + Nd q - (q + 1) = Nd q - 1 by omega, show q + 1 - q = (1 : Int) by omega, show left + (tw_wi Fm Cn q - 1) - ((0 : Nat) : Int) = left + (tw_wi Fm Cn q - 1) by omega]
    | succ j ihj =>
      intro hj
      rw [ihj (by omega)]
      obtain ⟨tw_g1, tw_g2, g3, g4, g5, g6⟩ := tw_child_in h q0 q1 (j := j) (by omega)
      have z := ih j (by omega) d (n0 + (tw_fw Nd q j - q)) (left + (tw_wi Fm Cn q - 1) - j) (N + (q + Nd q - tw_fw Nd q (j + 1)).toNat)
        (by rw [show d + (n0 + (tw_fw Nd q j - q)) = d + n0 + (tw_fw Nd q j - q) by omega]
            have := tw_CO_sub hc (o := tw_fw Nd q j - q) (m := Nd (tw_fw Nd q j)) (by omega) (by omega)
            rw [show q + (tw_fw Nd q j - q) = tw_fw Nd q j by omega] at this
            exact this) (by omega) (by omega)
      rw [show N + (q + Nd q - tw_fw Nd q (j + 1)).toNat + (Nd (tw_fw Nd q j)).toNat = N + (q + Nd q - tw_fw Nd q j).toNat by omega] at z
      rw [z, show n0 + (tw_fw Nd q j - q) + Nd (tw_fw Nd q j) = n0 + (tw_fw Nd q (j + 1) - q) by omega, show left + (tw_wi Fm Cn q - 1) - (j : Int) - 1 = left + (tw_wi Fm Cn q - 1) - ((j + 1 : Nat) : Int) by omega]
  rw [ch (tw_wi Fm Cn q).toNat (by omega), w2, show q + Nd q - (q + Nd q) = 0 by omega, show n0 + (q + Nd q - q) = n0 + Nd q by omega, show left + (tw_wi Fm Cn q - 1) - (((tw_wi Fm Cn q).toNat : Nat) : Int) = left - 1 by omega]
  rfl
set_option maxRecDepth 100000 in
theorem tw_size_ok {B top : Int} {Fm Cn Nd Dp Wt RFm RCn : Int → Int} (h : tw_DR B top Fm Cn Nd Dp Wt) {q d : Int} (q0 : 0 ≤ q) (q1 : q < top) (hc : tw_CO Fm Cn RFm RCn q d (Nd q)) {N : Nat} (hN : 201 ≤ N) : f_Mod_sizeOfData N RFm RCn d = some (Nd q) := by
  have hq := h q q0 q1
  have n1 := hq.1
  have n3 := hq.2.2.1
  unfold f_Mod_sizeOfData
  have z := tw_size_L (RFm := RFm) (RCn := RCn) h q q0 q1 d 0 1 (N - (Nd q).toNat) (by rw [show d + 0 = d by omega]; exact hc) (by omega) (by omega)
  rw [show N - (Nd q).toNat + (Nd q).toNat = N by omega] at z
  rw [z]
  rw [show N - (Nd q).toNat = (N - (Nd q).toNat - 1) + 1 by omega]
  refine tw_ob2_t (a1 := 0 + Nd q) (a2 := (1 : Int) - 1) ?_ ?_
  · rw [f_Mod_sizeOfData_L4]; (repeat (first | refine tw_ite_t (by first | omega | (simp only [tw_gq]; omega)) ?_ | refine tw_ite_f (by first | omega | (simp only [tw_gq]; omega)) ?_)); rfl
  · rw [show 0 + Nd q = Nd q by omega]
set_option maxRecDepth 100000 in
theorem tw_bytes_L {B top : Int} {Fm Cn Nd Dp Wt RFm RCn : Int → Int} (h : tw_DR B top Fm Cn Nd Dp Wt) : ∀ q, 0 ≤ q → q < top → ∀ (d x2 x3 x4 : Int) (N : Nat), tw_CO Fm Cn RFm RCn q (d + x4) (Nd q) → 0 ≤ x4 → x4 + Nd q ≤ x2 → x2 ≤ 5000 →
    f_Mod_bytesOfData_L5 RFm RCn d x2 (N + (Nd q).toNat) x3 x4 = f_Mod_bytesOfData_L5 RFm RCn d x2 N (x3 + Wt q) (x4 + Nd q) := by
  refine tw_tree_ind h _ (fun q q0 q1 ih => ?_)
  intro d x2 x3 x4 N hc l0 l1 l2
  have hq := h q q0 q1
  obtain ⟨n1, n2, n3, -, -, f0, f1, -, -, -, -, ⟨w0, w1, w2, -, w4⟩, -⟩ := hq
  obtain ⟨c1, c2, c3, c4⟩ := tw_CO_at hc n1
  have e0 : N + (Nd q).toNat = (N + (Nd q - 1).toNat) + 1 := by omega
  rw [e0]
  have s1 : f_Mod_bytesOfData_L5 RFm RCn d x2 ((N + (Nd q - 1).toNat) + 1) x3 x4 = f_Mod_bytesOfData_L5 RFm RCn d x2 (N + (Nd q - 1).toNat) (x3 + tw_ow Fm Cn q) (x4 + 1) := by
    rw [f_Mod_bytesOfData_L5]
    (first | refine tw_ite_t (by first | omega | (simp only [tw_gq]; omega)) ?_ | refine tw_ite_f (by first | omega | (simp only [tw_gq]; omega)) ?_)
    (first | refine tw_ite_t (by first | omega | (simp only [tw_gq]; omega)) ?_ | refine tw_ite_f (by first | omega | (simp only [tw_gq]; omega)) ?_)
    (first | refine tw_ite_t (by first | omega | (simp only [tw_gq]; omega)) ?_ | refine tw_ite_f (by first | omega | (simp only [tw_gq]; omega)) ?_)
    (first | refine tw_ite_t (by first | omega | (simp only [tw_gq]; omega)) ?_ | refine tw_ite_f (by first | omega | (simp only [tw_gq]; omega)) ?_)
    unfold tw_ow
    by_cases e : Fm q = 4
    · refine tw_ite_t (by omega) ?_
      (first | refine tw_ite_t (by first | omega | (simp only [tw_gq]; omega)) ?_ | refine tw_ite_f (by first | omega | (simp only [tw_gq]; omega)) ?_)
      rw [if_pos e, c2]
    · refine tw_ite_f (by omega) ?_
      rw [if_neg e]
  rw [s1]
  have ch : ∀ j : Nat, (j : Int) ≤ tw_wi Fm Cn q → f_Mod_bytesOfData_L5 RFm RCn d x2 (N + (Nd q - 1).toNat) (x3 + tw_ow Fm Cn q) (x4 + 1) = f_Mod_bytesOfData_L5 RFm RCn d x2 (N + (q + Nd q - tw_fw Nd q j).toNat) (x3 + tw_ow Fm Cn q + tw_ws Nd Wt q j) (x4 + (tw_fw Nd q j - q)) := by
    intro j
    induction j with
    | zero =>
      intro _
      have e1 : tw_fw Nd q 0 = q + 1 := rfl
      have e2 : tw_ws Nd Wt q 0 = 0 := rfl
      rw [e1, e2, show q + Nd q - (q + 1) = Nd q - 1 by omega, show q + 1 - q = (1 : Int) by omega, show x3 + tw_ow Fm Cn q + 0 = x3 + tw_ow Fm Cn q by omega]
    | succ j ihj =>
      intro hj
      rw [ihj (by omega)]
      obtain ⟨tw_g1, tw_g2, g3, g4, g5, g6⟩ := tw_child_in h q0 q1 (j := j) (by omega)
      have e2 : tw_ws Nd Wt q (j + 1) = tw_ws Nd Wt q j + Wt (tw_fw Nd q j) := rfl
      have z := ih j (by omega) d x2 (x3 + tw_ow Fm Cn q + tw_ws Nd Wt q j) (x4 + (tw_fw Nd q j - q)) (N + (q + Nd q - tw_fw Nd q (j + 1)).toNat)
        (by rw [show d + (x4 + (tw_fw Nd q j - q)) = d + x4 + (tw_fw Nd q j - q) by omega]
            have := tw_CO_sub hc (o := tw_fw Nd q j - q) (m := Nd (tw_fw Nd q j)) (by omega) (by omega)
            rw [show q + (tw_fw Nd q j - q) = tw_fw Nd q j by omega] at this
            exact this) (by omega) (by omega) l2
      rw [show N + (q + Nd q - tw_fw Nd q (j + 1)).toNat + (Nd (tw_fw Nd q j)).toNat = N + (q + Nd q - tw_fw Nd q j).toNat by omega] at z
      rw [z, e2, show x4 + (tw_fw Nd q j - q) + Nd (tw_fw Nd q j) = x4 + (tw_fw Nd q (j + 1) - q) by omega, show x3 + tw_ow Fm Cn q + tw_ws Nd Wt q j + Wt (tw_fw Nd q j) = x3 + tw_ow Fm Cn q + (tw_ws Nd Wt q j + Wt (tw_fw Nd q j)) by omega]
  rw [ch (tw_wi Fm Cn q).toNat (by omega), w2, show q + Nd q - (q + Nd q) = 0 by omega, show x4 + (q + Nd q - q) = x4 + Nd q by omega, w4, show x3 + tw_ow Fm Cn q + tw_ws Nd Wt q (tw_wi Fm Cn q).toNat = x3 + (tw_ws Nd Wt q (tw_wi Fm Cn q).toNat + tw_ow Fm Cn q) by omega]
  rfl
set_option maxRecDepth 100000 in
theorem tw_bytes_ok {B top : Int} {Fm Cn Nd Dp Wt RFm RCn : Int → Int} (h : tw_DR B top Fm Cn Nd Dp Wt) {q d : Int} (q0 : 0 ≤ q) (q1 : q < top) (hc : tw_CO Fm Cn RFm RCn q d (Nd q)) {N : Nat} (hN : 201 ≤ N) : f_Mod_bytesOfData N RFm RCn d (Nd q) = some (Wt q) := by
  have hq := h q q0 q1
  have n1 := hq.1
  have n3 := hq.2.2.1
  unfold f_Mod_bytesOfData
  have z := tw_bytes_L (RFm := RFm) (RCn := RCn) h q q0 q1 d (Nd q) 0 0 (N - (Nd q).toNat) (by rw [show d + 0 = d by omega]; exact hc) (by omega) (by omega) (by omega)
  rw [show N - (Nd q).toNat + (Nd q).toNat = N by omega] at z
  rw [z]
  rw [show N - (Nd q).toNat = (N - (Nd q).toNat - 1) + 1 by omega]
  refine tw_ob2_t (a1 := 0 + Wt q) (a2 := 0 + Nd q) ?_ ?_
  · rw [f_Mod_bytesOfData_L5]; (repeat (first | refine tw_ite_t (by first | omega | (simp only [tw_gq]; omega)) ?_ | refine tw_ite_f (by first | omega | (simp only [tw_gq]; omega)) ?_)); rfl
  · rw [show 0 + Wt q = Wt q by omega]
set_option maxRecDepth 100000 in
theorem tw_pop_L {cm : Int → Int} {x1 x2 x4 x5 e : Int} (e0 : 0 ≤ e) (he : e = 0 ∨ (1 ≤ cm e ∧ cm e ≤ 1000)) : ∀ (N : Nat) (deep : Int), e ≤ deep → deep ≤ 200 → (deep - e).toNat < N → (∀ i, e < i → i ≤ deep → cm i = 0) → f_Mod_depthOfData_L14 cm x1 x2 x4 x5 N deep = some e := by
  intro N
  induction N with
  | zero => intro deep h0 h1 hN; omega
  | succ N ih =>
    intro deep h0 h1 hN hz
    unfold f_Mod_depthOfData_L14
    by_cases c : deep = e
    · subst c
      rcases he with z | z
      · (first | refine tw_ite_t (by first | omega | (simp only [tw_gq]; omega)) ?_ | refine tw_ite_f (by first | omega | (simp only [tw_gq]; omega)) ?_); (first | refine tw_ite_t (by first | omega | (simp only [tw_gq]; omega)) ?_ | refine tw_ite_f (by first | omega | (simp only [tw_gq]; omega)) ?_); rfl
      · by_cases y : deep = 0
        · (first | refine tw_ite_t (by first | omega | (simp only [tw_gq]; omega)) ?_ | refine tw_ite_f (by first | omega | (simp only [tw_gq]; omega)) ?_); (first | refine tw_ite_t (by first | omega | (simp only [tw_gq]; omega)) ?_ | refine tw_ite_f (by first | omega | (simp only [tw_gq]; omega)) ?_); rfl
        · (first | refine tw_ite_t (by first | omega | (simp only [tw_gq]; omega)) ?_ | refine tw_ite_f (by first | omega | (simp only [tw_gq]; omega)) ?_); (first | refine tw_ite_t (by first | omega | (simp only [tw_gq]; omega)) ?_ | refine tw_ite_f (by first | omega | (simp only [tw_gq]; omega)) ?_); (first | refine tw_ite_t (by first | omega | (simp only [tw_gq]; omega)) ?_ | refine tw_ite_f (by first | omega | (simp only [tw_gq]; omega)) ?_); (first | refine tw_ite_t (by first | omega | (simp only [tw_gq]; omega)) ?_ | refine tw_ite_f (by first | omega | (simp only [tw_gq]; omega)) ?_); (first | refine tw_ite_t (by first | omega | (simp only [tw_gq]; omega)) ?_ | refine tw_ite_f (by first | omega | (simp only [tw_gq]; omega)) ?_); rfl
    · have z := hz deep (by omega) (by omega)
      (first | refine tw_ite_t (by first | omega | (simp only [tw_gq]; omega)) ?_ | refine tw_ite_f (by first | omega | (simp only [tw_gq]; omega)) ?_)
      (first | refine tw_ite_t (by first | omega | (simp only [tw_gq]; omega)) ?_ | refine tw_ite_f (by first | omega | (simp only [tw_gq]; omega)) ?_)
      (first | refine tw_ite_t (by first | omega | (simp only [tw_gq]; omega)) ?_ | refine tw_ite_f (by first | omega | (simp only [tw_gq]; omega)) ?_)
      rw [z]
      (first | refine tw_ite_t (by first | omega | (simp only [tw_gq]; omega)) ?_ | refine tw_ite_f (by first | omega | (simp only [tw_gq]; omega)) ?_)
      (first | refine tw_ite_t (by first | omega | (simp only [tw_gq]; omega)) ?_ | refine tw_ite_f (by first | omega | (simp only [tw_gq]; omega)) ?_)
      rw [show deep + -1 = deep - 1 by omega]
      exact ih (deep - 1) (by omega) (by omega) (by omega) (fun i i0 i1 => hz i i0 (by omega))
set_option maxRecDepth 100000 in
theorem tw_depth_L {B top : Int} {Fm Cn Nd Dp Wt RFm RCn : Int → Int} (h : tw_DR B top Fm Cn Nd Dp Wt) {NN : Nat} (hNN : 201 ≤ NN) : ∀ q, 0 ≤ q → q < top → ∀ (d x2 deep most x5 e : Int) (cm : Int → Int) (M : Nat), tw_CO Fm Cn RFm RCn q (d + x5) (Nd q) → 0 ≤ x5 → x5 + Nd q ≤ x2 → x2 ≤ 5000 →
    0 ≤ e → e ≤ deep → deep ≤ 100 → e + Dp q ≤ 100 → (∀ i, e < i → i ≤ deep → cm i = 0) → (e = 0 ∨ (1 ≤ cm e ∧ cm e ≤ 1000)) → 0 ≤ most → most ≤ 100 →
    ∃ deep' cm', f_Mod_depthOfData_L8 NN RFm RCn d x2 (M + (Nd q).toNat) deep most x5 cm = f_Mod_depthOfData_L8 NN RFm RCn d x2 M deep' (max most (e + Dp q)) (x5 + Nd q) cm'
      ∧ e ≤ deep' ∧ deep' ≤ 100 ∧ (∀ i, e < i → i ≤ deep' → cm' i = 0) ∧ (∀ i, i < e → cm' i = cm i) ∧ cm' e = cm e - 1 := by
  refine tw_tree_ind h _ (fun q q0 q1 ih => ?_)
  intro d x2 deep most x5 e cm M hc x0 x1 x2' e0 ed dd eD hz he m0 m1
  have hq := h q q0 q1
  obtain ⟨n1, n2, n3, d1, -, f0, f1, -, -, -, -, ⟨w0, w1, w2, w3, -⟩, -⟩ := hq
  have wl := tw_wi_le h q0 q1
  obtain ⟨c1, c2, c3, c4⟩ := tw_CO_at hc n1
  rw [show M + (Nd q).toNat = (M + (Nd q - 1).toNat) + 1 by omega]
  have s1 : f_Mod_depthOfData_L8 NN RFm RCn d x2 ((M + (Nd q - 1).toNat) + 1) deep most x5 cm = f_Mod_depthOfData_L8 NN RFm RCn d x2 (M + (Nd q - 1).toNat) (e + 1) (max most (e + 1)) (x5 + 1) (upZ (upZ cm e (cm e - 1)) (e + 1) (tw_wi Fm Cn q)) := by
    rw [f_Mod_depthOfData_L8]
    (first | refine tw_ite_t (by first | omega | (simp only [tw_gq]; omega)) ?_ | refine tw_ite_f (by first | omega | (simp only [tw_gq]; omega)) ?_)
    (first | refine tw_ite_t (by first | omega | (simp only [tw_gq]; omega)) ?_ | refine tw_ite_f (by first | omega | (simp only [tw_gq]; omega)) ?_)
    refine tw_bind_t (tw_pop_L e0 he NN deep ed (by omega) (by omega) hz) ?_
    (first | refine tw_ite_t (by first | omega | (simp only [tw_gq]; omega)) ?_ | refine tw_ite_f (by first | omega | (simp only [tw_gq]; omega)) ?_)
    (first | refine tw_ite_t (by first | omega | (simp only [tw_gq]; omega)) ?_ | refine tw_ite_f (by first | omega | (simp only [tw_gq]; omega)) ?_)
    refine tw_bind_t (tw_within_ok c3 c4 (by omega) (by omega)) ?_
    (first | refine tw_ite_t (by first | omega | (simp only [tw_gq]; omega)) ?_ | refine tw_ite_f (by first | omega | (simp only [tw_gq]; omega)) ?_)
    (first | refine tw_ite_t (by first | omega | (simp only [tw_gq]; omega)) ?_ | refine tw_ite_f (by first | omega | (simp only [tw_gq]; omega)) ?_)
    rw [tw_wi_CO hc n1]
    by_cases c : e + 1 ≤ most
    · rw [if_pos c, show max most (e + 1) = most by omega]
    · rw [if_neg c, show max most (e + 1) = e + 1 by omega]
  rw [s1]
  have dpw : ∀ j : Nat, (j : Int) < tw_wi Fm Cn q → 1 ≤ Dp (tw_fw Nd q j) ∧ Dp (tw_fw Nd q j) ≤ tw_dm Nd Dp q (tw_wi Fm Cn q).toNat := by
    intro j hj
    obtain ⟨tw_g1, tw_g2, g3, g4, g5, g6⟩ := tw_child_in h q0 q1 hj
    refine ⟨(h (tw_fw Nd q j) (by omega) (by omega)).2.2.2.1, ?_⟩
    have mono : ∀ k : Nat, tw_dm Nd Dp q (j + 1) ≤ tw_dm Nd Dp q (j + 1 + k) := by
      intro k
      induction k with
      | zero => exact Int.le_refl _
      | succ k ihk =>
        have : tw_dm Nd Dp q (j + 1 + (k + 1)) = max (tw_dm Nd Dp q (j + 1 + k)) (Dp (tw_fw Nd q (j + 1 + k))) := rfl
        omega
    have m := mono ((tw_wi Fm Cn q).toNat - (j + 1))
    rw [show j + 1 + ((tw_wi Fm Cn q).toNat - (j + 1)) = (tw_wi Fm Cn q).toNat by omega] at m
    have : tw_dm Nd Dp q (j + 1) = max (tw_dm Nd Dp q j) (Dp (tw_fw Nd q j)) := rfl
    omega
  have dm0 : ∀ j : Nat, 0 ≤ tw_dm Nd Dp q j := by
    intro j
    induction j with
    | zero => exact Int.le_refl _
    | succ j ihj =>
      have : tw_dm Nd Dp q (j + 1) = max (tw_dm Nd Dp q j) (Dp (tw_fw Nd q j)) := rfl
      omega
  have ch : ∀ j : Nat, (j : Int) ≤ tw_wi Fm Cn q → ∃ deep' cm', f_Mod_depthOfData_L8 NN RFm RCn d x2 (M + (Nd q - 1).toNat) (e + 1) (max most (e + 1)) (x5 + 1) (upZ (upZ cm e (cm e - 1)) (e + 1) (tw_wi Fm Cn q)) = f_Mod_depthOfData_L8 NN RFm RCn d x2 (M + (q + Nd q - tw_fw Nd q j).toNat) deep' (max most (e + 1 + tw_dm Nd Dp q j)) (x5 + (tw_fw Nd q j - q)) cm'
      ∧ tw_dm Nd Dp q j ≤ Dp q - 1 ∧ e + 1 ≤ deep' ∧ deep' ≤ 100 ∧ (∀ i, e + 1 < i → i ≤ deep' → cm' i = 0) ∧ (∀ i, i < e → cm' i = cm i) ∧ cm' e = cm e - 1 ∧ cm' (e + 1) = tw_wi Fm Cn q - j := by
    intro j
    induction j with
    | zero =>
      intro _
      have e1 : tw_fw Nd q 0 = q + 1 := rfl
      have e2 : tw_dm Nd Dp q 0 = 0 := rfl
      refine ⟨e + 1, upZ (upZ cm e (cm e - 1)) (e + 1) (tw_wi Fm Cn q), ?_, by omega, by omega, by omega, fun i i0 i1 => by omega, fun i hi => by rw [tw_upN _ (by omega), tw_upN _ (by omega)], by rw [tw_upN _ (by omega), tw_upS], by rw [tw_upS]; omega⟩
      rw [e1, e2, show q + Nd q - (q + 1) = Nd q - 1 by omega, show q + 1 - q = (1 : Int) by omega, show e + 1 + 0 = e + 1 by omega]
    | succ j ihj =>
      intro hj
      obtain ⟨deep1, cm1, r1, r8, r2, r3, r4, r5, r6, r7⟩ := ihj (by omega)
      obtain ⟨tw_g1, tw_g2, g3, g4, g5, g6⟩ := tw_child_in h q0 q1 (j := j) (by omega)
      have e2 : tw_dm Nd Dp q (j + 1) = max (tw_dm Nd Dp q j) (Dp (tw_fw Nd q j)) := rfl
      have dj := dm0 j
      have dpj := dpw j (by omega)
      have z := ih j (by omega) d x2 deep1 (max most (e + 1 + tw_dm Nd Dp q j)) (x5 + (tw_fw Nd q j - q)) (e + 1) cm1 (M + (q + Nd q - tw_fw Nd q (j + 1)).toNat)
        (by rw [show d + (x5 + (tw_fw Nd q j - q)) = d + x5 + (tw_fw Nd q j - q) by omega]
            have := tw_CO_sub hc (o := tw_fw Nd q j - q) (m := Nd (tw_fw Nd q j)) (by omega) (by omega)
            rw [show q + (tw_fw Nd q j - q) = tw_fw Nd q j by omega] at this
            exact this) (by omega) (by omega) x2' (by omega) r2 r3 (by omega) r4 (Or.inr (by omega)) (by omega) (by omega)
      obtain ⟨deep2, cm2, y1, y2, y3, y4, y5, y6⟩ := z
      rw [show M + (q + Nd q - tw_fw Nd q (j + 1)).toNat + (Nd (tw_fw Nd q j)).toNat = M + (q + Nd q - tw_fw Nd q j).toNat by omega] at y1
      refine ⟨deep2, cm2, ?_, by omega, by omega, by omega, y4, fun i hi => by rw [y5 i (by omega), r5 i hi], by rw [y5 e (by omega), r6], by rw [y6, r7]; omega⟩
      rw [r1, y1, e2, show x5 + (tw_fw Nd q j - q) + Nd (tw_fw Nd q j) = x5 + (tw_fw Nd q (j + 1) - q) by omega, show max (max most (e + 1 + tw_dm Nd Dp q j)) (e + 1 + Dp (tw_fw Nd q j)) = max most (e + 1 + max (tw_dm Nd Dp q j) (Dp (tw_fw Nd q j))) by omega]
  obtain ⟨deep1, cm1, r1, r8, r2, r3, r4, r5, r6, r7⟩ := ch (tw_wi Fm Cn q).toNat (by omega)
  refine ⟨deep1, cm1, ?_, by omega, r3, ?_, r5, r6⟩
  · rw [r1, w2, show q + Nd q - (q + Nd q) = 0 by omega, show x5 + (q + Nd q - q) = x5 + Nd q by omega, w3, show e + 1 + tw_dm Nd Dp q (tw_wi Fm Cn q).toNat = e + (tw_dm Nd Dp q (tw_wi Fm Cn q).toNat + 1) by omega]
    rfl
  · intro i i0 i1
    by_cases c : i = e + 1
    · rw [c, r7]; omega
    · exact r4 i (by omega) i1
set_option maxRecDepth 100000 in
theorem tw_depth_ok {B top : Int} {Fm Cn Nd Dp Wt RFm RCn : Int → Int} (h : tw_DR B top Fm Cn Nd Dp Wt) (hB : B ≤ 100) {q d : Int} (q0 : 0 ≤ q) (q1 : q < top) (hc : tw_CO Fm Cn RFm RCn q d (Nd q)) {N : Nat} (hN : 201 ≤ N) (cm : Int → Int) : ∃ cm', f_Mod_depthOfData N RFm RCn cm d (Nd q) = some (Dp q, cm') := by
  have hq := h q q0 q1
  have n1 := hq.1
  have n3 := hq.2.2.1
  have d1 := hq.2.2.2.1
  have d2 := hq.2.2.2.2.1
  unfold f_Mod_depthOfData
  obtain ⟨deep', cm', z, -⟩ := tw_depth_L (RFm := RFm) (RCn := RCn) h hN q q0 q1 d (Nd q) 0 0 0 0 cm (N - (Nd q).toNat) (by rw [show d + 0 = d by omega]; exact hc) (by omega) (by omega) (by omega) (by omega) (by omega) (by omega) (by omega) (fun i i0 i1 => by omega) (Or.inl rfl) (by omega) (by omega)
  rw [show N - (Nd q).toNat + (Nd q).toNat = N by omega] at z
  rw [z]
  rw [show N - (Nd q).toNat = (N - (Nd q).toNat - 1) + 1 by omega]
  refine ⟨cm', tw_ob4_t (a1 := deep') (a2 := Dp q) (a3 := 0 + Nd q) (a4 := cm') ?_ rfl⟩
  rw [f_Mod_depthOfData_L8]; (repeat (first | refine tw_ite_t (by first | omega | (simp only [tw_gq]; omega)) ?_ | refine tw_ite_f (by first | omega | (simp only [tw_gq]; omega)) ?_)); rw [show max 0 (0 + Dp q) = Dp q by omega]
set_option maxRecDepth 100000 in
theorem tw_DN_shift {B top top' s : Int} {Fm Cn Nd Dp Wt Fm' Cn' Nd' Dp' Wt' : Int → Int} (h : tw_DR B top Fm Cn Nd Dp Wt) {q : Int} (q0 : 0 ≤ q) (q1 : q < top)
    (ag : ∀ m, q ≤ m → m < q + Nd q → Nd' (m + s) = Nd m ∧ Dp' (m + s) = Dp m ∧ Wt' (m + s) = Wt m)
    (hF : 0 ≤ Fm' (q + s) ∧ Fm' (q + s) ≤ 4) (hC : 0 ≤ Cn' (q + s) ∧ Cn' (q + s) ≤ 200) (hw : tw_wi Fm' Cn' (q + s) = tw_wi Fm Cn q) (ho : tw_ow Fm' Cn' (q + s) = tw_ow Fm Cn q) (ht : q + s + Nd q ≤ top') : tw_DN B top' Fm' Cn' Nd' Dp' Wt' (q + s) := by
  have hq := h q q0 q1
  obtain ⟨n1, n2, n3, d1, d2, f0, f1, c0, c1, t0, t1, ⟨w0, w1, w2, w3, w4⟩, lam⟩ := hq
  obtain ⟨a1, a2, a3⟩ := ag q (by omega) (by omega)
  have ge := tw_fw_ge h q0 q1
  have ef : ∀ j : Nat, (j : Int) ≤ tw_wi Fm Cn q → tw_fw Nd' (q + s) j = tw_fw Nd q j + s := by
    intro j
    induction j with
    | zero => intro _; show q + s + 1 = q + 1 + s; omega
    | succ j ih =>
      intro hj
      have g := ge j (by omega)
      have l := w1 j (by omega)
      show tw_fw Nd' (q + s) j + Nd' (tw_fw Nd' (q + s) j) = tw_fw Nd q j + Nd (tw_fw Nd q j) + s
      rw [ih (by omega), (ag (tw_fw Nd q j) (by omega) l).1]; omega
  have ed : ∀ j : Nat, (j : Int) ≤ tw_wi Fm Cn q → tw_dm Nd' Dp' (q + s) j = tw_dm Nd Dp q j := by
    intro j
    induction j with
    | zero => intro _; rfl
    | succ j ih =>
      intro hj
      have g := ge j (by omega)
      have l := w1 j (by omega)
      show max (tw_dm Nd' Dp' (q + s) j) (Dp' (tw_fw Nd' (q + s) j)) = max (tw_dm Nd Dp q j) (Dp (tw_fw Nd q j))
      rw [ih (by omega), ef j (by omega), (ag (tw_fw Nd q j) (by omega) l).2.1]
  have ew : ∀ j : Nat, (j : Int) ≤ tw_wi Fm Cn q → tw_ws Nd' Wt' (q + s) j = tw_ws Nd Wt q j := by
    intro j
    induction j with
    | zero => intro _; rfl
    | succ j ih =>
      intro hj
      have g := ge j (by omega)
      have l := w1 j (by omega)
      show tw_ws Nd' Wt' (q + s) j + Wt' (tw_fw Nd' (q + s) j) = tw_ws Nd Wt q j + Wt (tw_fw Nd q j)
      rw [ih (by omega), ef j (by omega), (ag (tw_fw Nd q j) (by omega) l).2.2]
  refine ⟨by omega, by omega, by omega, by omega, by omega, by omega, by omega, by omega, by omega, by omega, by omega, ?_, ?_⟩
  · rw [hw, ho]
    refine ⟨w0, fun j hj => ?_, ?_, ?_, ?_⟩
    · rw [ef j (by omega), a1]; have := w1 j hj; omega
    · rw [ef _ (by omega), a1]; omega
    · rw [ed _ (by omega), a2]; omega
    · rw [ew _ (by omega), a3]; omega
  · intro c c0 c1
    rw [a1] at c1 ⊢
    have g := ag (c - s) (by omega) (by omega)
    rw [show c - s + s = c by omega] at g
    have := lam (c - s) (by omega) (by omega)
    omega
set_option maxRecDepth 100000 in
theorem tw_DN_root {B top : Int} {Fm Cn Nd Dp Wt : Int → Int} {r w : Int} (r0 : 0 ≤ r) (w0 : 0 ≤ w) (w200 : w ≤ 200) (hch : ∀ j : Nat, (j : Int) < w → r < tw_fw Nd r j ∧ tw_fw Nd r j < top) (hend : tw_fw Nd r w.toNat = top)
    (hDN : ∀ q, r < q → q < top → tw_DN B top Fm Cn Nd Dp Wt q) (rt : r < top) (hN : Nd r = top - r) (hN' : Nd r ≤ 200) (hD : Dp r = tw_dm Nd Dp r w.toNat + 1) (hB : Dp r ≤ B) (hW : Wt r = tw_ws Nd Wt r w.toNat) (hF : Fm r = 2) (hC : Cn r = w) : tw_DN B top Fm Cn Nd Dp Wt r := by
  have ew : tw_wi Fm Cn r = w := by unfold tw_wi; rw [if_neg (by omega), if_pos (by omega)]; exact hC
  have eo : tw_ow Fm Cn r = 0 := by unfold tw_ow; rw [if_neg (by omega)]
  have dm0 : ∀ j : Nat, 0 ≤ tw_dm Nd Dp r j := by
    intro j
    induction j with
    | zero => exact Int.le_refl _
    | succ j ih => show 0 ≤ max (tw_dm Nd Dp r j) (Dp (tw_fw Nd r j)); omega
  have wsb : ∀ j : Nat, (j : Int) ≤ w → 0 ≤ tw_ws Nd Wt r j ∧ tw_ws Nd Wt r j ≤ 64 * (tw_fw Nd r j - r - 1) := by
    intro j
    induction j with
    | zero => intro _; show 0 ≤ (0 : Int) ∧ (0 : Int) ≤ 64 * (r + 1 - r - 1); omega
    | succ j ih =>
      intro hj
      have i := ih (by omega)
      have c := hch j (by omega)
      have d := hDN (tw_fw Nd r j) c.1 c.2
      have d1 := d.2.2.2.2.2.2.2.2.2.1
      have d2 := d.2.2.2.2.2.2.2.2.2.2.1
      show 0 ≤ tw_ws Nd Wt r j + Wt (tw_fw Nd r j) ∧ tw_ws Nd Wt r j + Wt (tw_fw Nd r j) ≤ 64 * (tw_fw Nd r j + Nd (tw_fw Nd r j) - r - 1)
      omega
  have := dm0 w.toNat
  have wb := wsb w.toNat (by omega)
  refine ⟨by omega, by omega, hN', by omega, hB, by omega, by omega, by omega, by omega, by omega, by omega, ?_, ?_⟩
  · rw [ew, eo]
    exact ⟨w0, fun j hj => by have := hch j hj; omega, by omega, hD, by omega⟩
  · intro c c0 c1
    have := (hDN c c0 (by omega)).2.1
    omega
set_option maxRecDepth 100000 in
theorem tw_DR_mono {B B' top : Int} {Fm Cn Nd Dp Wt : Int → Int} (h : tw_DR B top Fm Cn Nd Dp Wt) (hB : B ≤ B') : tw_DR B' top Fm Cn Nd Dp Wt := by
  intro q q0 q1
  obtain ⟨n1, n2, n3, d1, d2, r⟩ := h q q0 q1
  exact ⟨n1, n2, n3, d1, by omega, r⟩
set_option maxRecDepth 100000 in
theorem tw_sealed_L {top r w : Int} {Cn Nd Dp Wt : Int → Int} (r0 : 0 ≤ r) (rt : r < 3201) (t1 : top ≤ 3201) (hC : Cn r = w) (w200 : w ≤ 200) (hch : ∀ j : Nat, (j : Int) < w → 0 ≤ tw_fw Nd r j ∧ tw_fw Nd r j < top ∧ 0 ≤ Dp (tw_fw Nd r j) ∧ Dp (tw_fw Nd r j) ≤ 1000) : ∀ (N j : Nat), (j : Int) ≤ w → w.toNat - j < N → 
    f_DataRow_sealed_L26 top Cn Nd Dp Wt r N (tw_dm Nd Dp r j) (tw_ws Nd Wt r j) (tw_fw Nd r j) j = some (tw_dm Nd Dp r w.toNat, tw_ws Nd Wt r w.toNat, tw_fw Nd r w.toNat, w) := by
  have dmb : ∀ j : Nat, (j : Int) ≤ w → 0 ≤ tw_dm Nd Dp r j ∧ tw_dm Nd Dp r j ≤ 1000 := by
    intro j
    induction j with
    | zero => intro _; show 0 ≤ (0 : Int) ∧ (0 : Int) ≤ 1000; omega
    | succ j ih =>
      intro hj
      have i := ih (by omega)
      have c := hch j (by omega)
      show 0 ≤ max (tw_dm Nd Dp r j) (Dp (tw_fw Nd r j)) ∧ max (tw_dm Nd Dp r j) (Dp (tw_fw Nd r j)) ≤ 1000
      omega
  intro N
  induction N with
  | zero => intro j hj hN; omega
  | succ N ih =>
    intro j hj hN
    have db := dmb j hj
    unfold f_DataRow_sealed_L26
    by_cases e : (j : Int) = w
    · have e2 : w.toNat = j := by omega
      (first | refine tw_ite_t (by first | omega | (simp only [tw_gq]; omega)) ?_ | refine tw_ite_f (by first | omega | (simp only [tw_gq]; omega)) ?_)
      (first | refine tw_ite_t (by first | omega | (simp only [tw_gq]; omega)) ?_ | refine tw_ite_f (by first | omega | (simp only [tw_gq]; omega)) ?_)
      (first | refine tw_ite_t (by first | omega | (simp only [tw_gq]; omega)) ?_ | refine tw_ite_f (by first | omega | (simp only [tw_gq]; omega)) ?_)
      rw [e2, ← e]
    · have c := hch j (by omega)
      (first | refine tw_ite_t (by first | omega | (simp only [tw_gq]; omega)) ?_ | refine tw_ite_f (by first | omega | (simp only [tw_gq]; omega)) ?_)
      (first | refine tw_ite_t (by first | omega | (simp only [tw_gq]; omega)) ?_ | refine tw_ite_f (by first | omega | (simp only [tw_gq]; omega)) ?_)
      (first | refine tw_ite_t (by first | omega | (simp only [tw_gq]; omega)) ?_ | refine tw_ite_f (by first | omega | (simp only [tw_gq]; omega)) ?_)
      (first | refine tw_ite_t (by first | omega | (simp only [tw_gq]; omega)) ?_ | refine tw_ite_f (by first | omega | (simp only [tw_gq]; omega)) ?_)
      (first | refine tw_ite_t (by first | omega | (simp only [tw_gq]; omega)) ?_ | refine tw_ite_f (by first | omega | (simp only [tw_gq]; omega)) ?_)
      (first | refine tw_ite_t (by first | omega | (simp only [tw_gq]; omega)) ?_ | refine tw_ite_f (by first | omega | (simp only [tw_gq]; omega)) ?_)
      (first | refine tw_ite_t (by first | omega | (simp only [tw_gq]; omega)) ?_ | refine tw_ite_f (by first | omega | (simp only [tw_gq]; omega)) ?_)
      (first | refine tw_ite_t (by first | omega | (simp only [tw_gq]; omega)) ?_ | refine tw_ite_f (by first | omega | (simp only [tw_gq]; omega)) ?_)
      (first | refine tw_ite_t (by first | omega | (simp only [tw_gq]; omega)) ?_ | refine tw_ite_f (by first | omega | (simp only [tw_gq]; omega)) ?_)
      have z := ih (j + 1) (by omega) (by omega)
      exact z
set_option maxRecDepth 100000 in
theorem tw_dN_in {t p : Int} {f : Int → Int} (h0 : 0 ≤ p) (h1 : p < t) (ht : t ≤ 3201) : f_DataRow_nodesOf t f p = some (f p) := by
  unfold f_DataRow_nodesOf; (repeat (first | refine tw_ite_t (by first | omega | (simp only [tw_gq]; omega)) ?_ | refine tw_ite_f (by first | omega | (simp only [tw_gq]; omega)) ?_)); rfl
set_option maxRecDepth 100000 in
theorem tw_dC_in {t p : Int} {f : Int → Int} (h0 : 0 ≤ p) (h1 : p < t) (ht : t ≤ 3201) : f_DataRow_countOf t f p = some (f p) := by
  unfold f_DataRow_countOf; (repeat (first | refine tw_ite_t (by first | omega | (simp only [tw_gq]; omega)) ?_ | refine tw_ite_f (by first | omega | (simp only [tw_gq]; omega)) ?_)); rfl
set_option maxRecDepth 100000 in
theorem tw_dF_in {t p : Int} {f : Int → Int} (h0 : 0 ≤ p) (h1 : p < t) (ht : t ≤ 3201) : f_DataRow_formOf t f p = some (f p) := by
  unfold f_DataRow_formOf; (repeat (first | refine tw_ite_t (by first | omega | (simp only [tw_gq]; omega)) ?_ | refine tw_ite_f (by first | omega | (simp only [tw_gq]; omega)) ?_)); rfl
set_option maxRecDepth 100000 in
theorem tw_dM_in {t p : Int} {f : Int → Int} (h0 : 0 ≤ p) (h1 : p < t) (ht : t ≤ 3201) : f_DataRow_numberOf t f p = some (f p) := by
  unfold f_DataRow_numberOf; (repeat (first | refine tw_ite_t (by first | omega | (simp only [tw_gq]; omega)) ?_ | refine tw_ite_f (by first | omega | (simp only [tw_gq]; omega)) ?_)); rfl
set_option maxRecDepth 100000 in
theorem tw_dD_in {t p : Int} {f : Int → Int} (h0 : 0 ≤ p) (h1 : p < t) (ht : t ≤ 3201) : f_DataRow_depthOf t f p = some (f p) := by
  unfold f_DataRow_depthOf; (repeat (first | refine tw_ite_t (by first | omega | (simp only [tw_gq]; omega)) ?_ | refine tw_ite_f (by first | omega | (simp only [tw_gq]; omega)) ?_)); rfl
set_option maxRecDepth 100000 in
theorem tw_dS_in {t p : Int} {f g : Int → Int} (h0 : 0 ≤ p) (h1 : p < t) (ht : t ≤ 3201) (g0 : 0 ≤ g p) (tw_g1 : g p ≤ 100000) : f_DataRow_sizeOf t f g p = some (f p + g p / 8) := by
  unfold f_DataRow_sizeOf; (repeat (first | refine tw_ite_t (by first | omega | (simp only [tw_gq]; omega)) ?_ | refine tw_ite_f (by first | omega | (simp only [tw_gq]; omega)) ?_)); rw [Int.tdiv_eq_ediv_of_nonneg g0]
set_option maxRecDepth 100000 in
theorem tw_leaf_ok {t p1 p2 p4 : Int} {Fm Cn Nm Nd Dp Wt : Int → Int} (h0 : 0 ≤ t) (h1 : t < 3201) (hp : 0 ≤ p1 ∧ p1 ≤ 4) : f_DataRow_leaf t Fm Cn Nm Nd Dp Wt p1 p2 p4 = some (t, t + 1, upZ Fm t p1, upZ Cn t p4, upZ Nm t p2, upZ Nd t 1, upZ Dp t 1, upZ Wt t (if p1 = 4 then p4 else 0)) := by
  unfold f_DataRow_leaf
  by_cases e : p1 = 4
  · (repeat (first | refine tw_ite_t (by first | omega | (simp only [tw_gq]; omega)) ?_ | refine tw_ite_f (by first | omega | (simp only [tw_gq]; omega)) ?_)); rw [if_pos e]
  · (repeat (first | refine tw_ite_t (by first | omega | (simp only [tw_gq]; omega)) ?_ | refine tw_ite_f (by first | omega | (simp only [tw_gq]; omega)) ?_)); rw [if_neg e]
set_option maxRecDepth 100000 in
theorem tw_leaf_DR {t p1 p4 : Int} {Fm Cn Nd Dp Wt : Int → Int} (h : tw_DR 12 t Fm Cn Nd Dp Wt) (h0 : 0 ≤ t) (hp : (p1 = 3 ∧ p4 = 0) ∨ (p1 = 4 ∧ 0 ≤ p4 ∧ p4 ≤ 64) ∨ (p1 = 2 ∧ p4 = 0)) :
    tw_DR 12 (t + 1) (upZ Fm t p1) (upZ Cn t p4) (upZ Nd t 1) (upZ Dp t 1) (upZ Wt t (if p1 = 4 then p4 else 0)) := by
  intro q q0 q1
  by_cases e : q = t
  · subst e
    have ew : tw_wi (upZ Fm q p1) (upZ Cn q p4) q = 0 := by
      unfold tw_wi; rw [tw_upS, tw_upS]; split
      · omega
      · split <;> omega
    have eo : tw_ow (upZ Fm q p1) (upZ Cn q p4) q = (if p1 = 4 then p4 else 0) := by unfold tw_ow; rw [tw_upS, tw_upS]
    have eb : 0 ≤ (if p1 = 4 then p4 else 0) ∧ (if p1 = 4 then p4 else 0) ≤ 64 := by split <;> omega
    unfold tw_DN
    rw [ew, eo]
    simp only [tw_upS]
    refine ⟨by omega, by omega, by omega, by omega, by omega, by omega, by omega, by omega, by omega, by omega, by omega, ⟨by omega, fun j hj => by omega, ?_, ?_, ?_⟩, fun c c0 c1 => by omega⟩
    · rw [tw_upS]; rfl
    · rw [tw_upS]; rfl
    · rw [tw_upS]; show _ = (0 : Int) + _; omega
  · have hq := h q q0 (by omega)
    have n2 := hq.2.1
    have z := tw_DN_shift (top' := t + 1) (s := 0) (Fm' := upZ Fm t p1) (Cn' := upZ Cn t p4) (Nd' := upZ Nd t 1) (Dp' := upZ Dp t 1) (Wt' := upZ Wt t (if p1 = 4 then p4 else 0)) h q0 (by omega)
      (fun m m0 m1 => by rw [show m + 0 = m by omega, tw_upN _ (by omega), tw_upN _ (by omega), tw_upN _ (by omega)]; exact ⟨rfl, rfl, rfl⟩)
      (by rw [show q + 0 = q by omega, tw_upN _ e]; exact ⟨hq.2.2.2.2.2.1, hq.2.2.2.2.2.2.1⟩) (by rw [show q + 0 = q by omega, tw_upN _ e]; exact ⟨hq.2.2.2.2.2.2.2.1, hq.2.2.2.2.2.2.2.2.1⟩)
      (by rw [show q + 0 = q by omega]; unfold tw_wi; rw [tw_upN _ e, tw_upN _ e]) (by rw [show q + 0 = q by omega]; unfold tw_ow; rw [tw_upN _ e, tw_upN _ e]) (by omega)
    rw [show q + 0 = q by omega] at z
    exact z
set_option maxRecDepth 100000 in
theorem tw_copy_ok {t a n : Int} {Fm Cn Nm Nd Dp Wt : Int → Int} (h0 : 0 ≤ a) (h1 : 0 ≤ n) (h2 : a + n ≤ t) (h3 : t + n ≤ 3201) : f_DataRow_copy t Fm Cn Nm Nd Dp Wt a n = some (1, t + n, cpZ Fm Fm a t n, cpZ Cn Cn a t n, cpZ Nm Nm a t n, cpZ Nd Nd a t n, cpZ Dp Dp a t n, cpZ Wt Wt a t n) := by
  unfold f_DataRow_copy; (repeat (first | refine tw_ite_t (by first | omega | (simp only [tw_gq]; omega)) ?_ | refine tw_ite_f (by first | omega | (simp only [tw_gq]; omega)) ?_)); rfl
set_option maxRecDepth 100000 in
theorem tw_recast_ok {t a p2 p3 p5 : Int} {Fm Cn Nm Nd Dp Wt : Int → Int} (h : tw_DR 12 t Fm Cn Nd Dp Wt) (h0 : 0 ≤ a) (h1 : a < t) (h3 : t + Nd a ≤ 3201) : f_DataRow_recast t Fm Cn Nm Nd Dp Wt a p2 p3 p5 = some (t, t + Nd a, upZ (cpZ Fm Fm a t (Nd a)) t p2, upZ (cpZ Cn Cn a t (Nd a)) t p5, upZ (cpZ Nm Nm a t (Nd a)) t p3, cpZ Nd Nd a t (Nd a), cpZ Dp Dp a t (Nd a), cpZ Wt Wt a t (Nd a)) := by
  have n1 := (h a h0 h1).1
  have n2 := (h a h0 h1).2.1
  unfold f_DataRow_recast
  refine tw_bind_t (tw_dN_in h0 h1 (by omega)) ?_
  refine tw_ob8_t (tw_copy_ok h0 (by omega) n2 h3) ?_
  (repeat (first | refine tw_ite_t (by first | omega | (simp only [tw_gq]; omega)) ?_ | refine tw_ite_f (by first | omega | (simp only [tw_gq]; omega)) ?_))
  rfl
set_option maxRecDepth 100000 in
theorem tw_recast_DR {t a p2 p5 : Int} {Fm Cn Nd Dp Wt : Int → Int} (h : tw_DR 12 t Fm Cn Nd Dp Wt) (h0 : 0 ≤ a) (h1 : a < t) (hp : 0 ≤ p2 ∧ p2 ≤ 2) (hc : 0 ≤ p5 ∧ p5 ≤ 200) (hw : (if p2 = 1 then 2 * p5 else p5) = tw_wi Fm Cn a) (ho : ¬ Fm a = 4) :
    tw_DR 12 (t + Nd a) (upZ (cpZ Fm Fm a t (Nd a)) t p2) (upZ (cpZ Cn Cn a t (Nd a)) t p5) (cpZ Nd Nd a t (Nd a)) (cpZ Dp Dp a t (Nd a)) (cpZ Wt Wt a t (Nd a)) := by
  have ha := h a h0 h1
  have n1 := ha.1
  have n2 := ha.2.1
  have lam := ha.2.2.2.2.2.2.2.2.2.2.2.2
  intro q q0 q1
  by_cases c : q < t
  · have hq := h q q0 c
    have m2 := hq.2.1
    have z := tw_DN_shift (top' := t + Nd a) (s := 0) (Fm' := upZ (cpZ Fm Fm a t (Nd a)) t p2) (Cn' := upZ (cpZ Cn Cn a t (Nd a)) t p5) (Nd' := cpZ Nd Nd a t (Nd a)) (Dp' := cpZ Dp Dp a t (Nd a)) (Wt' := cpZ Wt Wt a t (Nd a)) h q0 c
      (fun m m0 m1 => by rw [show m + 0 = m by omega, tw_cpN (by omega), tw_cpN (by omega), tw_cpN (by omega)]; exact ⟨rfl, rfl, rfl⟩)
      (by rw [show q + 0 = q by omega, tw_upN _ (by omega), tw_cpN (by omega)]; exact ⟨hq.2.2.2.2.2.1, hq.2.2.2.2.2.2.1⟩) (by rw [show q + 0 = q by omega, tw_upN _ (by omega), tw_cpN (by omega)]; exact ⟨hq.2.2.2.2.2.2.2.1, hq.2.2.2.2.2.2.2.2.1⟩)
      (by rw [show q + 0 = q by omega]; unfold tw_wi; rw [tw_upN _ (by omega), tw_cpN (by omega), tw_upN _ (by omega), tw_cpN (by omega)]) (by rw [show q + 0 = q by omega]; unfold tw_ow; rw [tw_upN _ (by omega), tw_cpN (by omega), tw_upN _ (by omega), tw_cpN (by omega)]) (by omega)
    rw [show q + 0 = q by omega] at z
    exact z
  ·
    have hs := h (a + (q - t)) (by omega) (by omega)
    have l : a + (q - t) + Nd (a + (q - t)) ≤ a + Nd a := by
      by_cases e : q = t
      · subst e; rw [show a + (q - q) = a by omega]; omega
      · exact lam _ (by omega) (by omega)
    have z := tw_DN_shift (top' := t + Nd a) (s := t - a) (q := a + (q - t)) (Fm' := upZ (cpZ Fm Fm a t (Nd a)) t p2) (Cn' := upZ (cpZ Cn Cn a t (Nd a)) t p5) (Nd' := cpZ Nd Nd a t (Nd a)) (Dp' := cpZ Dp Dp a t (Nd a)) (Wt' := cpZ Wt Wt a t (Nd a)) h (by omega) (by omega)
      (fun m m0 m1 => by rw [tw_cpI (by omega), tw_cpI (by omega), tw_cpI (by omega), show a + (m + (t - a) - t) = m by omega]; exact ⟨rfl, rfl, rfl⟩)
    rw [show a + (q - t) + (t - a) = q by omega] at z
    by_cases e : q = t
    · subst e
      rw [show a + (q - q) = a by omega] at z
      refine z (by rw [tw_upS]; omega) (by rw [tw_upS]; omega) ?_ ?_ (by omega)
      · rw [← hw]; unfold tw_wi; rw [tw_upS, tw_upS]
        by_cases e1 : p2 = 1
        · rw [if_pos e1, if_pos e1]
        · rw [if_neg e1, if_neg e1, if_pos (by omega)]
      · unfold tw_ow; rw [tw_upS, if_neg (by omega), if_neg ho]
    · refine z (by rw [tw_upN _ e, tw_cpI (by omega)]; exact ⟨hs.2.2.2.2.2.1, hs.2.2.2.2.2.2.1⟩) (by rw [tw_upN _ e, tw_cpI (by omega)]; exact ⟨hs.2.2.2.2.2.2.2.1, hs.2.2.2.2.2.2.2.2.1⟩) ?_ ?_ (by omega)
      · unfold tw_wi; rw [tw_upN _ e, tw_cpI (by omega), tw_upN _ e, tw_cpI (by omega)]
      · unfold tw_ow; rw [tw_upN _ e, tw_cpI (by omega), tw_upN _ e, tw_cpI (by omega)]
set_option maxRecDepth 100000 in
theorem tw_pre_chain {B top t a b : Int} {Fm Cn Nd Dp Wt Nd' Dp' Wt' : Int → Int} (h : tw_DR B top Fm Cn Nd Dp Wt) (b0 : 0 ≤ b) (b1 : b < top) (n1 : 1 ≤ Nd a)
    (m1 : ∀ m, a ≤ m → m < a + Nd a → Nd' (m + (t + 1 - a)) = Nd m ∧ Dp' (m + (t + 1 - a)) = Dp m ∧ Wt' (m + (t + 1 - a)) = Wt m)
    (m2 : ∀ m, b < m → m < b + Nd b → Nd' (m + (t + Nd a - b)) = Nd m ∧ Dp' (m + (t + Nd a - b)) = Dp m ∧ Wt' (m + (t + Nd a - b)) = Wt m) :
    ∀ j : Nat, (j : Int) ≤ tw_wi Fm Cn b → tw_fw Nd' t (j + 1) = tw_fw Nd b j + (t + Nd a - b) ∧ tw_dm Nd' Dp' t (j + 1) = max (max 0 (Dp a)) (tw_dm Nd Dp b j) ∧ tw_ws Nd' Wt' t (j + 1) = Wt a + tw_ws Nd Wt b j := by
  obtain ⟨z1, z2, z3⟩ := m1 a (by omega) (by omega)
  rw [show a + (t + 1 - a) = t + 1 by omega] at z1 z2 z3
  have ge := tw_fw_ge h b0 b1
  have w1 := (h b b0 b1).2.2.2.2.2.2.2.2.2.2.2.1.2.1
  intro j
  induction j with
  | zero =>
    intro _
    refine ⟨?_, ?_, ?_⟩
    · show t + 1 + Nd' (t + 1) = b + 1 + (t + Nd a - b); omega
    · show max 0 (Dp' (t + 1)) = max (max 0 (Dp a)) 0; omega
    · show 0 + Wt' (t + 1) = Wt a + 0; omega
  | succ j ih =>
    intro hj
    obtain ⟨i1, i2, i3⟩ := ih (by omega)
    have g := ge j (by omega)
    have l := w1 j (by omega)
    obtain ⟨y1, y2, y3⟩ := m2 (tw_fw Nd b j) (by omega) l
    refine ⟨?_, ?_, ?_⟩
    · show tw_fw Nd' t (j + 1) + Nd' (tw_fw Nd' t (j + 1)) = tw_fw Nd b j + Nd (tw_fw Nd b j) + (t + Nd a - b)
      rw [i1, y1]; omega
    · show max (tw_dm Nd' Dp' t (j + 1)) (Dp' (tw_fw Nd' t (j + 1))) = max (max 0 (Dp a)) (max (tw_dm Nd Dp b j) (Dp (tw_fw Nd b j)))
      rw [i1, i2, y2]; omega
    · show tw_ws Nd' Wt' t (j + 1) + Wt' (tw_fw Nd' t (j + 1)) = Wt a + (tw_ws Nd Wt b j + Wt (tw_fw Nd b j))
      rw [i1, i3, y3]; omega
set_option maxRecDepth 100000 in
theorem tw_pre_DR {B t a b : Int} {Fm Cn Nd Dp Wt Fm' Cn' Nd' Dp' Wt' : Int → Int} (h : tw_DR 12 t Fm Cn Nd Dp Wt) (a0 : 0 ≤ a) (a1 : a < t) (b0 : 0 ≤ b) (b1 : b < t) (hf : Fm b = 2) (hn : Nd a + Nd b ≤ 200)
    (lo : ∀ m, m < t → Fm' m = Fm m ∧ Cn' m = Cn m ∧ Nd' m = Nd m ∧ Dp' m = Dp m ∧ Wt' m = Wt m)
    (m1 : ∀ m, a ≤ m → m < a + Nd a → Fm' (m + (t + 1 - a)) = Fm m ∧ Cn' (m + (t + 1 - a)) = Cn m ∧ Nd' (m + (t + 1 - a)) = Nd m ∧ Dp' (m + (t + 1 - a)) = Dp m ∧ Wt' (m + (t + 1 - a)) = Wt m)
    (m2 : ∀ m, b < m → m < b + Nd b → Fm' (m + (t + Nd a - b)) = Fm m ∧ Cn' (m + (t + Nd a - b)) = Cn m ∧ Nd' (m + (t + Nd a - b)) = Nd m ∧ Dp' (m + (t + Nd a - b)) = Dp m ∧ Wt' (m + (t + Nd a - b)) = Wt m)
    (rF : Fm' t = 2) (rC : Cn' t = Cn b + 1) (rN : Nd' t = Nd a + Nd b) (rD : Dp' t = max (Dp a + 1) (Dp b)) (rW : Wt' t = Wt a + Wt b) (hB : 12 ≤ B) (hB' : Dp' t ≤ B) : tw_DR B (t + Nd a + Nd b) Fm' Cn' Nd' Dp' Wt' := by
  have h12 : tw_DR B t Fm Cn Nd Dp Wt := tw_DR_mono h hB
  have ha := h a a0 a1
  have hb := h b b0 b1
  have na := ha.1
  have nb := hb.1
  have na2 := ha.2.1
  have nb2 := hb.2.1
  have la := ha.2.2.2.2.2.2.2.2.2.2.2.2
  have lb := hb.2.2.2.2.2.2.2.2.2.2.2.2
  have da := ha.2.2.2.1
  have db := hb.2.2.2.1
  obtain ⟨w0, w1, w2, w3, w4⟩ := hb.2.2.2.2.2.2.2.2.2.2.2.1
  have ew : tw_wi Fm Cn b = Cn b := by unfold tw_wi; rw [if_neg (by omega), if_pos (by omega)]
  have eo : tw_ow Fm Cn b = 0 := by unfold tw_ow; rw [if_neg (by omega)]
  have ch := tw_pre_chain (t := t) (a := a) h b0 b1 na (fun m p q => (m1 m p q).2.2) (fun m p q => (m2 m p q).2.2)
  have wle := tw_wi_le h b0 b1
  have ge := tw_fw_ge h b0 b1
  rw [ew] at w0 w1 w2 w3 w4 ch wle ge
  rw [eo] at w4
  have other : ∀ q, 0 ≤ q → ¬ q = t → q < t + Nd a + Nd b → tw_DN B (t + Nd a + Nd b) Fm' Cn' Nd' Dp' Wt' q := by
    intro q q0 qt q1
    by_cases c1 : q < t
    · have hq := h q q0 c1
      have n2 := hq.2.1
      obtain ⟨o1, o2, o3, o4, o5⟩ := lo q c1
      have z := tw_DN_shift (top' := t + Nd a + Nd b) (s := 0) (Fm' := Fm') (Cn' := Cn') (Nd' := Nd') (Dp' := Dp') (Wt' := Wt') h12 q0 c1
        (fun m m0 m1 => by rw [show m + 0 = m by omega]; exact (lo m (by omega)).2.2)
        (by rw [show q + 0 = q by omega, o1]; exact ⟨hq.2.2.2.2.2.1, hq.2.2.2.2.2.2.1⟩) (by rw [show q + 0 = q by omega, o2]; exact ⟨hq.2.2.2.2.2.2.2.1, hq.2.2.2.2.2.2.2.2.1⟩)
        (by rw [show q + 0 = q by omega]; unfold tw_wi; rw [o1, o2]) (by rw [show q + 0 = q by omega]; unfold tw_ow; rw [o1, o2]) (by omega)
      rw [show q + 0 = q by omega] at z
      exact z
    · by_cases c2 : q < t + 1 + Nd a
      · have hs := h (q - (t + 1 - a)) (by omega) (by omega)
        have l : q - (t + 1 - a) + Nd (q - (t + 1 - a)) ≤ a + Nd a := by
          by_cases e : q - (t + 1 - a) = a
          · rw [e]; omega
          · exact la _ (by omega) (by omega)
        obtain ⟨o1, o2, -⟩ := m1 (q - (t + 1 - a)) (by omega) (by omega)
        have z := tw_DN_shift (top' := t + Nd a + Nd b) (s := t + 1 - a) (q := q - (t + 1 - a)) (Fm' := Fm') (Cn' := Cn') (Nd' := Nd') (Dp' := Dp') (Wt' := Wt') h12 (by omega) (by omega)
          (fun m p0 p1 => (m1 m (by omega) (by omega)).2.2)
          (by rw [o1]; exact ⟨hs.2.2.2.2.2.1, hs.2.2.2.2.2.2.1⟩) (by rw [o2]; exact ⟨hs.2.2.2.2.2.2.2.1, hs.2.2.2.2.2.2.2.2.1⟩)
          (by unfold tw_wi; rw [o1, o2]) (by unfold tw_ow; rw [o1, o2]) (by omega)
        rw [show q - (t + 1 - a) + (t + 1 - a) = q by omega] at z
        exact z
      · have hs := h (q - (t + Nd a - b)) (by omega) (by omega)
        have l : q - (t + Nd a - b) + Nd (q - (t + Nd a - b)) ≤ b + Nd b := lb _ (by omega) (by omega)
        obtain ⟨o1, o2, -⟩ := m2 (q - (t + Nd a - b)) (by omega) (by omega)
        have z := tw_DN_shift (top' := t + Nd a + Nd b) (s := t + Nd a - b) (q := q - (t + Nd a - b)) (Fm' := Fm') (Cn' := Cn') (Nd' := Nd') (Dp' := Dp') (Wt' := Wt') h12 (by omega) (by omega)
          (fun m p0 p1 => (m2 m (by omega) (by omega)).2.2)
          (by rw [o1]; exact ⟨hs.2.2.2.2.2.1, hs.2.2.2.2.2.2.1⟩) (by rw [o2]; exact ⟨hs.2.2.2.2.2.2.2.1, hs.2.2.2.2.2.2.2.2.1⟩)
          (by unfold tw_wi; rw [o1, o2]) (by unfold tw_ow; rw [o1, o2]) (by omega)
        rw [show q - (t + Nd a - b) + (t + Nd a - b) = q by omega] at z
        exact z
  intro q q0 q1
  by_cases e : q = t
  · subst e
    have cw := ch (Cn b).toNat (by omega)
    rw [w2] at cw
    have e1 : (Cn b + 1).toNat = (Cn b).toNat + 1 := by omega
    refine tw_DN_root (w := Cn b + 1) q0 (by omega) (by omega) ?_ ?_ (fun x x0 x1 => other x (by omega) (by omega) x1) (by omega) (by omega) (by omega) ?_ hB' ?_ rF rC
    · intro j hj
      cases j with
      | zero => show q < q + 1 ∧ q + 1 < q + Nd a + Nd b; omega
      | succ j =>
        have g := ge j (by omega)
        have l := w1 j (by omega)
        rw [(ch j (by omega)).1]; omega
    · rw [e1, cw.1]; omega
    · rw [e1, cw.2.1, rD]; omega
    · rw [e1, cw.2.2, rW]; omega
  · exact other q q0 e q1
set_option maxRecDepth 100000 in
theorem tw_rest_chain {B top t b s : Int} {Fm Cn Nd Dp Wt Nd' Dp' Wt' : Int → Int} (h : tw_DR B top Fm Cn Nd Dp Wt) (b0 : 0 ≤ b) (b1 : b < top) (w1 : 1 ≤ tw_wi Fm Cn b) (hs : s = t - b - Nd (b + 1))
    (m2 : ∀ m, b + 1 + Nd (b + 1) ≤ m → m < b + Nd b → Nd' (m + s) = Nd m ∧ Dp' (m + s) = Dp m ∧ Wt' (m + s) = Wt m) :
    ∀ j : Nat, (j : Int) + 1 ≤ tw_wi Fm Cn b → tw_fw Nd' t j = tw_fw Nd b (j + 1) + s ∧ tw_dm Nd' Dp' t j ≤ tw_dm Nd Dp b (j + 1) ∧ 0 ≤ tw_dm Nd' Dp' t j ∧ b + 1 + Nd (b + 1) ≤ tw_fw Nd b (j + 1) := by
  have ge := tw_fw_ge h b0 b1
  have wl := (h b b0 b1).2.2.2.2.2.2.2.2.2.2.2.1.2.1
  intro j
  induction j with
  | zero =>
    intro _
    refine ⟨?_, ?_, Int.le_refl _, ?_⟩
    · show t + 1 = b + 1 + Nd (b + 1) + s; omega
    · show 0 ≤ max 0 (Dp (b + 1)); omega
    · show b + 1 + Nd (b + 1) ≤ b + 1 + Nd (b + 1); omega
  | succ j ih =>
    intro hj
    obtain ⟨i1, i2, i3, i4⟩ := ih (by omega)
    have g := ge (j + 1) (by omega)
    have l := wl (j + 1) (by omega)
    have c := tw_child_in h b0 b1 (j := j + 1) (by omega)
    obtain ⟨y1, y2, y3⟩ := m2 (tw_fw Nd b (j + 1)) i4 l
    refine ⟨?_, ?_, ?_, ?_⟩
    · show tw_fw Nd' t j + Nd' (tw_fw Nd' t j) = tw_fw Nd b (j + 1) + Nd (tw_fw Nd b (j + 1)) + s
      rw [i1, y1]; omega
    · show max (tw_dm Nd' Dp' t j) (Dp' (tw_fw Nd' t j)) ≤ max (tw_dm Nd Dp b (j + 1)) (Dp (tw_fw Nd b (j + 1)))
      rw [i1, y2]; omega
    · show 0 ≤ max (tw_dm Nd' Dp' t j) (Dp' (tw_fw Nd' t j)); omega
    · show b + 1 + Nd (b + 1) ≤ tw_fw Nd b (j + 1) + Nd (tw_fw Nd b (j + 1)); omega
set_option maxRecDepth 100000 in
theorem tw_rest_DR {t b s n1 : Int} {Fm Cn Nd Dp Wt Fm' Cn' Nd' Dp' Wt' : Int → Int} (h : tw_DR 12 t Fm Cn Nd Dp Wt) (b0 : 0 ≤ b) (b1 : b < t) (hf : Fm b = 2) (hc : 1 ≤ Cn b) (hn1 : n1 = Nd (b + 1)) (hs : s = t - b - n1)
    (lo : ∀ m, m < t → Fm' m = Fm m ∧ Cn' m = Cn m ∧ Nd' m = Nd m ∧ Dp' m = Dp m ∧ Wt' m = Wt m)
    (m2 : ∀ m, b + 1 + n1 ≤ m → m < b + Nd b → Fm' (m + s) = Fm m ∧ Cn' (m + s) = Cn m ∧ Nd' (m + s) = Nd m ∧ Dp' (m + s) = Dp m ∧ Wt' (m + s) = Wt m)
    (rF : Fm' t = 2) (rC : Cn' t = Cn b - 1) (rN : Nd' t = Nd b - n1) (rD : Dp' t = tw_dm Nd' Dp' t (Cn b - 1).toNat + 1) (rW : Wt' t = tw_ws Nd' Wt' t (Cn b - 1).toNat) : tw_DR 12 (t + Nd b - n1) Fm' Cn' Nd' Dp' Wt' := by
  have hb := h b b0 b1
  have nb := hb.1
  have nb2 := hb.2.1
  have lb := hb.2.2.2.2.2.2.2.2.2.2.2.2
  have db := hb.2.2.2.2.1
  have nb200 := hb.2.2.1
  obtain ⟨w0, w1, w2, w3, w4⟩ := hb.2.2.2.2.2.2.2.2.2.2.2.1
  have ew : tw_wi Fm Cn b = Cn b := by unfold tw_wi; rw [if_neg (by omega), if_pos (by omega)]
  have ch := tw_rest_chain (t := t) (s := s) h b0 b1 (by omega) (by omega) (fun m p q => (m2 m (by omega) q).2.2)
  have wle := tw_wi_le h b0 b1
  have ge := tw_fw_ge h b0 b1
  have c0 := tw_child_in h b0 b1 (j := 0) (by omega)
  have e0 : tw_fw Nd b 0 = b + 1 := rfl
  rw [e0] at c0
  rw [ew] at w0 w1 w2 w3 w4 ch wle ge
  have other : ∀ q, 0 ≤ q → ¬ q = t → q < t + Nd b - n1 → tw_DN 12 (t + Nd b - n1) Fm' Cn' Nd' Dp' Wt' q := by
    intro q q0 qt q1
    by_cases c1 : q < t
    · have hq := h q q0 c1
      have n2 := hq.2.1
      obtain ⟨o1, o2, o3, o4, o5⟩ := lo q c1
      have z := tw_DN_shift (top' := t + Nd b - n1) (s := 0) (Fm' := Fm') (Cn' := Cn') (Nd' := Nd') (Dp' := Dp') (Wt' := Wt') h q0 c1
        (fun m m0 m1 => by rw [show m + 0 = m by omega]; exact (lo m (by omega)).2.2)
        (by rw [show q + 0 = q by omega, o1]; exact ⟨hq.2.2.2.2.2.1, hq.2.2.2.2.2.2.1⟩) (by rw [show q + 0 = q by omega, o2]; exact ⟨hq.2.2.2.2.2.2.2.1, hq.2.2.2.2.2.2.2.2.1⟩)
        (by rw [show q + 0 = q by omega]; unfold tw_wi; rw [o1, o2]) (by rw [show q + 0 = q by omega]; unfold tw_ow; rw [o1, o2]) (by omega)
      rw [show q + 0 = q by omega] at z
      exact z
    · have hs' := h (q - s) (by omega) (by omega)
      have l : q - s + Nd (q - s) ≤ b + Nd b := lb _ (by omega) (by omega)
      obtain ⟨o1, o2, -⟩ := m2 (q - s) (by omega) (by omega)
      rw [show q - s + s = q by omega] at o1 o2
      have z := tw_DN_shift (top' := t + Nd b - n1) (s := s) (q := q - s) (Fm' := Fm') (Cn' := Cn') (Nd' := Nd') (Dp' := Dp') (Wt' := Wt') h (by omega) (by omega)
        (fun m p0 p1 => (m2 m (by omega) (by omega)).2.2)
      rw [show q - s + s = q by omega] at z
      exact z (by rw [o1]; exact ⟨hs'.2.2.2.2.2.1, hs'.2.2.2.2.2.2.1⟩) (by rw [o2]; exact ⟨hs'.2.2.2.2.2.2.2.1, hs'.2.2.2.2.2.2.2.2.1⟩)
          (by unfold tw_wi; rw [o1, o2]) (by unfold tw_ow; rw [o1, o2]) (by omega)
  intro q q0 q1
  by_cases e : q = t
  · subst e
    have cw := ch (Cn b - 1).toNat (by omega)
    rw [show (Cn b - 1).toNat + 1 = (Cn b).toNat by omega, w2] at cw
    refine tw_DN_root (w := Cn b - 1) q0 (by omega) (by omega) ?_ ?_ (fun x x0 x1 => other x (by omega) (by omega) x1) (by omega) (by omega) (by omega) rD (by omega) rW rF rC
    · intro j hj
      have z := ch j (by omega)
      have l := w1 (j + 1) (by omega)
      omega
    · rw [cw.1]; omega
  · exact other q q0 e q1
set_option maxRecDepth 100000 in
def tw_PW2 (X X' : Int → Int) (t a n1 b n2 : Int) : Prop := (∀ m, m < t → X' m = X m) ∧ (∀ m, a ≤ m → m < a + n1 → X' (m + (t + 1 - a)) = X m) ∧ (∀ m, b < m → m < b + n2 → X' (m + (t + n1 - b)) = X m)
set_option maxRecDepth 100000 in
def tw_g2 (X : Int → Int) (t v a n1 b n2 : Int) : Int → Int := cpZ (cpZ (upZ X t v) (upZ X t v) a (t + 1) n1) (cpZ (upZ X t v) (upZ X t v) a (t + 1) n1) (b + 1) (t + 1 + n1) (n2 - 1)
set_option maxRecDepth 100000 in
theorem tw_g2_PW {X : Int → Int} {t v a n1 b n2 : Int} (a0 : 0 ≤ a) (b0 : 0 ≤ b) (n10 : 0 ≤ n1) (n20 : 1 ≤ n2) (a1 : a + n1 ≤ t) (b1 : b + n2 ≤ t) : tw_PW2 X (tw_g2 X t v a n1 b n2) t a n1 b n2 ∧ tw_g2 X t v a n1 b n2 t = v := by
  unfold tw_g2
  refine ⟨⟨fun m hm => ?_, fun m m0 m1 => ?_, fun m m0 m1 => ?_⟩, ?_⟩
  · rw [tw_cpN (by omega), tw_cpN (by omega), tw_upN _ (by omega)]
  · rw [tw_cpN (by omega), tw_cpI (by omega), tw_upN _ (by omega), show a + (m + (t + 1 - a) - (t + 1)) = m by omega]
  · rw [tw_cpI (by omega), tw_cpN (by omega), tw_upN _ (by omega), show b + 1 + (m + (t + n1 - b) - (t + 1 + n1)) = m by omega]
  · rw [tw_cpN (by omega), tw_cpN (by omega), tw_upS]
set_option maxRecDepth 100000 in
theorem tw_PW2_up {X X' : Int → Int} {t v a n1 b n2 : Int} (n10 : 0 ≤ n1) (h : tw_PW2 X X' t a n1 b n2) : tw_PW2 X (upZ X' t v) t a n1 b n2 := by
  obtain ⟨h1, h2, h3⟩ := h
  exact ⟨fun m hm => by rw [tw_upN _ (by omega)]; exact h1 m hm, fun m m0 m1 => by rw [tw_upN _ (by omega)]; exact h2 m m0 m1, fun m m0 m1 => by rw [tw_upN _ (by omega)]; exact h3 m m0 m1⟩
set_option maxRecDepth 100000 in
def tw_PRE (t a b : Int) (Fm Cn Nm Nd Dp Wt Fm' Cn' Nm' Nd' Dp' Wt' : Int → Int) : Prop :=
  tw_PW2 Fm Fm' t a (Nd a) b (Nd b) ∧ tw_PW2 Cn Cn' t a (Nd a) b (Nd b) ∧ tw_PW2 Nm Nm' t a (Nd a) b (Nd b) ∧ tw_PW2 Nd Nd' t a (Nd a) b (Nd b) ∧ tw_PW2 Dp Dp' t a (Nd a) b (Nd b) ∧ tw_PW2 Wt Wt' t a (Nd a) b (Nd b)
  ∧ Fm' t = 2 ∧ Cn' t = Cn b + 1 ∧ Nm' t = 0 ∧ Nd' t = Nd a + Nd b ∧ Dp' t = max (Dp a + 1) (Dp b) ∧ Wt' t = Wt a + Wt b
set_option maxRecDepth 100000 in
theorem tw_PRE_DR {B t a b : Int} {Fm Cn Nm Nd Dp Wt Fm' Cn' Nm' Nd' Dp' Wt' : Int → Int} (h : tw_DR 12 t Fm Cn Nd Dp Wt) (a0 : 0 ≤ a) (a1 : a < t) (b0 : 0 ≤ b) (b1 : b < t) (hf : Fm b = 2) (hn : Nd a + Nd b ≤ 200) (hp : tw_PRE t a b Fm Cn Nm Nd Dp Wt Fm' Cn' Nm' Nd' Dp' Wt') (hB : 12 ≤ B) (hB' : Dp' t ≤ B) : tw_DR B (t + Nd a + Nd b) Fm' Cn' Nd' Dp' Wt' := by
  obtain ⟨⟨f1, f2, f3⟩, ⟨c1, c2, c3⟩, -, ⟨n1, n2, n3⟩, ⟨d1, d2, d3⟩, ⟨w1, w2, w3⟩, r1, r2, r3, r4, r5, r6⟩ := hp
  exact tw_pre_DR h a0 a1 b0 b1 hf hn (fun m z => ⟨f1 m z, c1 m z, n1 m z, d1 m z, w1 m z⟩) (fun m z y => ⟨f2 m z y, c2 m z y, n2 m z y, d2 m z y, w2 m z y⟩) (fun m z y => ⟨f3 m z y, c3 m z y, n3 m z y, d3 m z y, w3 m z y⟩) r1 r2 r4 r5 r6 hB hB'
set_option maxRecDepth 100000 in
theorem tw_PRE_ghost {t a b : Int} {Fm Cn Nm Nd Dp Wt : Int → Int} (h : tw_DR 12 t Fm Cn Nd Dp Wt) (a0 : 0 ≤ a) (a1 : a < t) (b0 : 0 ≤ b) (b1 : b < t) :
    tw_PRE t a b Fm Cn Nm Nd Dp Wt (tw_g2 Fm t 2 a (Nd a) b (Nd b)) (tw_g2 Cn t (Cn b + 1) a (Nd a) b (Nd b)) (tw_g2 Nm t 0 a (Nd a) b (Nd b)) (tw_g2 Nd t (Nd a + Nd b) a (Nd a) b (Nd b)) (tw_g2 Dp t (max (Dp a + 1) (Dp b)) a (Nd a) b (Nd b)) (tw_g2 Wt t (Wt a + Wt b) a (Nd a) b (Nd b)) := by
  have x1 := (h a a0 a1).1
  have x2 := (h a a0 a1).2.1
  have y1 := (h b b0 b1).1
  have y2 := (h b b0 b1).2.1
  have z := fun (X : Int → Int) (v : Int) => tw_g2_PW (X := X) (v := v) a0 b0 (show 0 ≤ Nd a by omega) (show 1 ≤ Nd b by omega) x2 y2
  exact ⟨(z _ _).1, (z _ _).1, (z _ _).1, (z _ _).1, (z _ _).1, (z _ _).1, (z _ _).2, (z _ _).2, (z _ _).2, (z _ _).2, (z _ _).2, (z _ _).2⟩
set_option maxRecDepth 100000 in
theorem tw_prepend_ok {t a b : Int} {Fm Cn Nm Nd Dp Wt : Int → Int} (h : tw_DR 12 t Fm Cn Nd Dp Wt) (a0 : 0 ≤ a) (a1 : a < t) (b0 : 0 ≤ b) (b1 : b < t) (hf : Fm b = 2) (hn : Nd a + Nd b ≤ 200) (hd : Dp a < 12) (ht : t + Nd a + Nd b ≤ 3201) {N : Nat} (hN : 202 ≤ N) :
    ∃ Fm' Cn' Nm' Nd' Dp' Wt', f_DataRow_prepend N t Fm Cn Nm Nd Dp Wt a b = some (t, t + Nd a + Nd b, Fm', Cn', Nm', Nd', Dp', Wt') ∧ tw_PRE t a b Fm Cn Nm Nd Dp Wt Fm' Cn' Nm' Nd' Dp' Wt' := by
  have ha := h a a0 a1
  have hb := h b b0 b1
  have x1 := ha.1
  have x2 := ha.2.1
  have y1 := hb.1
  have y2 := hb.2.1
  have d1 := ha.2.2.2.1
  have d2 := ha.2.2.2.2.1
  have c1 := hb.2.2.2.2.2.2.2.1
  have c2 := hb.2.2.2.2.2.2.2.2.1
  obtain ⟨w0, w1, w2, w3, w4⟩ := hb.2.2.2.2.2.2.2.2.2.2.2.1
  have ew : tw_wi Fm Cn b = Cn b := by unfold tw_wi; rw [if_neg (by omega), if_pos (by omega)]
  have eo : tw_ow Fm Cn b = 0 := by unfold tw_ow; rw [if_neg (by omega)]
  have z := fun (X : Int → Int) (v : Int) => tw_g2_PW (X := X) (v := v) a0 b0 (show 0 ≤ Nd a by omega) (show 1 ≤ Nd b by omega) x2 y2
  have ch := tw_pre_chain (t := t) (a := a) (Nd' := tw_g2 Nd t 1 a (Nd a) b (Nd b)) (Dp' := tw_g2 Dp t 1 a (Nd a) b (Nd b)) (Wt' := tw_g2 Wt t 0 a (Nd a) b (Nd b)) h b0 b1 x1
    (fun m p q => ⟨(z Nd 1).1.2.1 m p q, (z Dp 1).1.2.1 m p q, (z Wt 0).1.2.1 m p q⟩) (fun m p q => ⟨(z Nd 1).1.2.2 m p q, (z Dp 1).1.2.2 m p q, (z Wt 0).1.2.2 m p q⟩)
  have ge := tw_fw_ge h b0 b1
  have wle := tw_wi_le h b0 b1
  rw [ew] at w0 w1 w2 w3 w4 ch wle ge
  rw [eo] at w4
  have cw := ch (Cn b).toNat (by omega)
  rw [w2] at cw
  have e1 : (Cn b + 1).toNat = (Cn b).toNat + 1 := by omega
  have dmb : 0 ≤ tw_dm Nd Dp b (Cn b).toNat ∧ tw_dm Nd Dp b (Cn b).toNat ≤ 12 := by have := hb.2.2.2.1; have := hb.2.2.2.2.1; omega
  have sl := tw_sealed_L (top := t + 1 + Nd a + (Nd b - 1)) (r := t) (w := Cn b + 1) (Cn := tw_g2 Cn t (Cn b + 1) a (Nd a) b (Nd b)) (Nd := tw_g2 Nd t 1 a (Nd a) b (Nd b)) (Dp := tw_g2 Dp t 1 a (Nd a) b (Nd b)) (Wt := tw_g2 Wt t 0 a (Nd a) b (Nd b)) (by omega) (by omega) (by omega) (z Cn (Cn b + 1)).2 (by omega)
    (by
      intro j hj
      cases j with
      | zero =>
        have e : (tw_g2 Dp t 1 a (Nd a) b (Nd b)) (t + 1) = Dp a := by
          have := (z Dp 1).1.2.1 a (by omega) (by omega)
          rw [show a + (t + 1 - a) = t + 1 by omega] at this
          exact this
        show 0 ≤ t + 1 ∧ t + 1 < t + 1 + Nd a + (Nd b - 1) ∧ 0 ≤ (tw_g2 Dp t 1 a (Nd a) b (Nd b)) (t + 1) ∧ (tw_g2 Dp t 1 a (Nd a) b (Nd b)) (t + 1) ≤ 1000
        rw [e]; omega
      | succ j =>
        have g := ge j (by omega)
        have l := w1 j (by omega)
        have hd' := h (tw_fw Nd b j) (by omega) (by omega)
        have q1 := hd'.2.2.2.1
        have q2 := hd'.2.2.2.2.1
        rw [(ch j (by omega)).1, (z Dp 1).1.2.2 (tw_fw Nd b j) (by omega) l]; omega) N 0 (by omega) (by omega)
  rw [e1, cw.1, cw.2.1, cw.2.2] at sl
  have sl0 : f_DataRow_sealed_L26 (t + 1 + Nd a + (Nd b - 1)) (tw_g2 Cn t (Cn b + 1) a (Nd a) b (Nd b)) (tw_g2 Nd t 1 a (Nd a) b (Nd b)) (tw_g2 Dp t 1 a (Nd a) b (Nd b)) (tw_g2 Wt t 0 a (Nd a) b (Nd b)) t N 0 0 (t + 1) 0 = _ := sl
  refine ⟨tw_g2 Fm t 2 a (Nd a) b (Nd b), tw_g2 Cn t (Cn b + 1) a (Nd a) b (Nd b), tw_g2 Nm t 0 a (Nd a) b (Nd b), upZ (tw_g2 Nd t 1 a (Nd a) b (Nd b)) t (Nd a + Nd b), upZ (tw_g2 Dp t 1 a (Nd a) b (Nd b)) t (max (Dp a + 1) (Dp b)), upZ (tw_g2 Wt t 0 a (Nd a) b (Nd b)) t (Wt a + Wt b), ?_, ?_⟩
  · unfold f_DataRow_prepend
    refine tw_bind_t (tw_dN_in a0 a1 (by omega)) ?_
    refine tw_bind_t (tw_dN_in b0 b1 (by omega)) ?_
    (first | refine tw_ite_t (by first | omega | (simp only [tw_gq]; omega)) ?_ | refine tw_ite_f (by first | omega | (simp only [tw_gq]; omega)) ?_)
    (first | refine tw_ite_t (by first | omega | (simp only [tw_gq]; omega)) ?_ | refine tw_ite_f (by first | omega | (simp only [tw_gq]; omega)) ?_)
    refine tw_bind_t (tw_dD_in a0 a1 (by omega)) ?_
    (first | refine tw_ite_t (by first | omega | (simp only [tw_gq]; omega)) ?_ | refine tw_ite_f (by first | omega | (simp only [tw_gq]; omega)) ?_)
    (first | refine tw_ite_t (by first | omega | (simp only [tw_gq]; omega)) ?_ | refine tw_ite_f (by first | omega | (simp only [tw_gq]; omega)) ?_)
    refine tw_bind_t (tw_dC_in b0 b1 (by omega)) ?_
    refine tw_ob8_t (tw_leaf_ok (by omega) (by omega) (by omega)) ?_
    refine tw_bind_t (tw_dN_in a0 (by omega) (by omega)) ?_
    rw [tw_upN Nd (show ¬ a = t by omega)]
    refine tw_ob8_t (tw_copy_ok a0 (by omega) (by omega) (by omega)) ?_
    (first | refine tw_ite_t (by first | omega | (simp only [tw_gq]; omega)) ?_ | refine tw_ite_f (by first | omega | (simp only [tw_gq]; omega)) ?_)
    (first | refine tw_ite_t (by first | omega | (simp only [tw_gq]; omega)) ?_ | refine tw_ite_f (by first | omega | (simp only [tw_gq]; omega)) ?_)
    refine tw_bind_t (tw_dN_in b0 (by omega) (by omega)) ?_
    rw [tw_cpN (f := upZ Nd t 1) (show ¬ (t + 1 ≤ b ∧ b < t + 1 + Nd a) by omega), tw_upN Nd (show ¬ b = t by omega)]
    refine tw_ob8_t (tw_copy_ok (by omega) (by omega) (by omega) (by omega)) ?_
    (first | refine tw_ite_t (by first | omega | (simp only [tw_gq]; omega)) ?_ | refine tw_ite_f (by first | omega | (simp only [tw_gq]; omega)) ?_)
    (first | refine tw_ite_t (by first | omega | (simp only [tw_gq]; omega)) ?_ | refine tw_ite_f (by first | omega | (simp only [tw_gq]; omega)) ?_)
    refine tw_ob4_t (a1 := t) (a2 := upZ (tw_g2 Nd t 1 a (Nd a) b (Nd b)) t (Nd a + Nd b)) (a3 := upZ (tw_g2 Dp t 1 a (Nd a) b (Nd b)) t (max (Dp a + 1) (Dp b))) (a4 := upZ (tw_g2 Wt t 0 a (Nd a) b (Nd b)) t (Wt a + Wt b)) ?_ ?_
    · unfold f_DataRow_sealed
      (first | refine tw_ite_t (by first | omega | (simp only [tw_gq]; omega)) ?_ | refine tw_ite_f (by first | omega | (simp only [tw_gq]; omega)) ?_)
      (first | refine tw_ite_t (by first | omega | (simp only [tw_gq]; omega)) ?_ | refine tw_ite_f (by first | omega | (simp only [tw_gq]; omega)) ?_)
      (first | refine tw_ite_t (by first | omega | (simp only [tw_gq]; omega)) ?_ | refine tw_ite_f (by first | omega | (simp only [tw_gq]; omega)) ?_)
      (first | refine tw_ite_t (by first | omega | (simp only [tw_gq]; omega)) ?_ | refine tw_ite_f (by first | omega | (simp only [tw_gq]; omega)) ?_)
      refine tw_ob4_t sl0 ?_
      (first | refine tw_ite_t (by first | omega | (simp only [tw_gq]; omega)) ?_ | refine tw_ite_f (by first | omega | (simp only [tw_gq]; omega)) ?_)
      (first | refine tw_ite_t (by first | omega | (simp only [tw_gq]; omega)) ?_ | refine tw_ite_f (by first | omega | (simp only [tw_gq]; omega)) ?_)
      (first | refine tw_ite_t (by first | omega | (simp only [tw_gq]; omega)) ?_ | refine tw_ite_f (by first | omega | (simp only [tw_gq]; omega)) ?_)
      rw [show t + 1 + Nd a + (Nd b - 1) - t = Nd a + Nd b by omega, show max (max 0 (Dp a)) (tw_dm Nd Dp b (Cn b).toNat) + 1 = max (Dp a + 1) (Dp b) by omega, show Wt a + tw_ws Nd Wt b (Cn b).toNat = Wt a + Wt b by omega]
      rfl
    · rw [show t + 1 + Nd a + (Nd b - 1) = t + Nd a + Nd b by omega]
      rfl
  · exact ⟨(z _ _).1, (z _ _).1, (z _ _).1, tw_PW2_up (by omega) (z _ _).1, tw_PW2_up (by omega) (z _ _).1, tw_PW2_up (by omega) (z _ _).1, (z _ _).2, (z _ _).2, (z _ _).2, tw_upS _ _ _, tw_upS _ _ _, tw_upS _ _ _⟩
set_option maxRecDepth 100000 in
def tw_PW1 (X X' : Int → Int) (t a n : Int) : Prop := (∀ m, m < t → X' m = X m) ∧ (∀ m, a ≤ m → m < a + n → X' (m + (t + 1 - a)) = X m)
set_option maxRecDepth 100000 in
def tw_g1 (X : Int → Int) (t v a n : Int) : Int → Int := cpZ (upZ X t v) (upZ X t v) a (t + 1) n
set_option maxRecDepth 100000 in
theorem tw_g1_PW {X : Int → Int} {t v a n : Int} (a0 : 0 ≤ a) (n0 : 0 ≤ n) (a1 : a + n ≤ t) : tw_PW1 X (tw_g1 X t v a n) t a n ∧ tw_g1 X t v a n t = v := by
  unfold tw_g1
  refine ⟨⟨fun m hm => ?_, fun m m0 m1 => ?_⟩, ?_⟩
  · rw [tw_cpN (by omega), tw_upN _ (by omega)]
  · rw [tw_cpI (by omega), tw_upN _ (by omega), show a + (m + (t + 1 - a) - (t + 1)) = m by omega]
  · rw [tw_cpN (by omega), tw_upS]
set_option maxRecDepth 100000 in
theorem tw_PW1_up {X X' : Int → Int} {t v a n : Int} (h : tw_PW1 X X' t a n) : tw_PW1 X (upZ X' t v) t a n := by
  obtain ⟨h1, h2⟩ := h
  exact ⟨fun m hm => by rw [tw_upN _ (by omega)]; exact h1 m hm, fun m m0 m1 => by rw [tw_upN _ (by omega)]; exact h2 m m0 m1⟩
set_option maxRecDepth 100000 in
def tw_RST (t b : Int) (Fm Cn Nm Nd Dp Wt Fm' Cn' Nm' Nd' Dp' Wt' : Int → Int) : Prop :=
  tw_PW1 Fm Fm' t (b + 1 + Nd (b + 1)) (Nd b - 1 - Nd (b + 1)) ∧ tw_PW1 Cn Cn' t (b + 1 + Nd (b + 1)) (Nd b - 1 - Nd (b + 1)) ∧ tw_PW1 Nm Nm' t (b + 1 + Nd (b + 1)) (Nd b - 1 - Nd (b + 1)) ∧ (∀ m, m < t → Nd' m = Nd m) ∧ (∀ m, m < t → Dp' m = Dp m) ∧ (∀ m, m < t → Wt' m = Wt m)
  ∧ Fm' t = 2 ∧ Cn' t = Cn b - 1 ∧ Nm' t = 0 ∧ Nd' t = Nd b - Nd (b + 1)
set_option maxRecDepth 100000 in
theorem tw_fw_up {Nd Dp Wt : Int → Int} {t v d w : Int} : ∀ (n : Nat), (∀ j : Nat, j < n → t < tw_fw Nd t j) → tw_fw (upZ Nd t v) t n = tw_fw Nd t n ∧ tw_dm (upZ Nd t v) (upZ Dp t d) t n = tw_dm Nd Dp t n ∧ tw_ws (upZ Nd t v) (upZ Wt t w) t n = tw_ws Nd Wt t n := by
  intro n
  induction n with
  | zero => intro _; exact ⟨rfl, rfl, rfl⟩
  | succ n ih =>
    intro h
    obtain ⟨i1, i2, i3⟩ := ih (fun j hj => h j (by omega))
    have p := h n (by omega)
    refine ⟨?_, ?_, ?_⟩
    · show tw_fw (upZ Nd t v) t n + upZ Nd t v (tw_fw (upZ Nd t v) t n) = tw_fw Nd t n + Nd (tw_fw Nd t n)
      rw [i1, tw_upN _ (by omega)]
    · show max (tw_dm (upZ Nd t v) (upZ Dp t d) t n) (upZ Dp t d (tw_fw (upZ Nd t v) t n)) = max (tw_dm Nd Dp t n) (Dp (tw_fw Nd t n))
      rw [i1, i2, tw_upN _ (by omega)]
    · show tw_ws (upZ Nd t v) (upZ Wt t w) t n + upZ Wt t w (tw_fw (upZ Nd t v) t n) = tw_ws Nd Wt t n + Wt (tw_fw Nd t n)
      rw [i1, i3, tw_upN _ (by omega)]
set_option maxRecDepth 100000 in
theorem tw_rest_ok {t b : Int} {Fm Cn Nm Nd Dp Wt : Int → Int} (h : tw_DR 12 t Fm Cn Nd Dp Wt) (b0 : 0 ≤ b) (b1 : b < t) (hf : Fm b = 2) (hc : 1 ≤ Cn b) (ht : t + Nd b ≤ 3201) {N : Nat} (hN : 202 ≤ N) :
    ∃ Fm' Cn' Nm' Nd' Dp' Wt', f_DataRow_rest N t Fm Cn Nm Nd Dp Wt b = some (t, t + Nd b - Nd (b + 1), Fm', Cn', Nm', Nd', Dp', Wt') ∧ tw_RST t b Fm Cn Nm Nd Dp Wt Fm' Cn' Nm' Nd' Dp' Wt' ∧ tw_DR 12 (t + Nd b - Nd (b + 1)) Fm' Cn' Nd' Dp' Wt' := by
  have hb := h b b0 b1
  have y1 := hb.1
  have y2 := hb.2.1
  have y3 := hb.2.2.1
  have c1 := hb.2.2.2.2.2.2.2.1
  have c2 := hb.2.2.2.2.2.2.2.2.1
  obtain ⟨w0, w1, w2, w3, w4⟩ := hb.2.2.2.2.2.2.2.2.2.2.2.1
  have ew : tw_wi Fm Cn b = Cn b := by unfold tw_wi; rw [if_neg (by omega), if_pos (by omega)]
  have ci := tw_child_in h b0 b1 (j := 0) (by omega)
  have e0 : tw_fw Nd b 0 = b + 1 := rfl
  rw [e0] at ci
  obtain ⟨ci1, ci2, ci3, ci4, ci5, -⟩ := ci
  have z := fun (X : Int → Int) (v : Int) => tw_g1_PW (X := X) (v := v) (t := t) (a := b + 1 + Nd (b + 1)) (n := Nd b - 1 - Nd (b + 1)) (by omega) (by omega) (by omega)
  have ch := tw_rest_chain (t := t) (s := t + 1 - (b + 1 + Nd (b + 1))) (Nd' := tw_g1 Nd t 1 (b + 1 + Nd (b + 1)) (Nd b - 1 - Nd (b + 1))) (Dp' := tw_g1 Dp t 1 (b + 1 + Nd (b + 1)) (Nd b - 1 - Nd (b + 1))) (Wt' := tw_g1 Wt t 0 (b + 1 + Nd (b + 1)) (Nd b - 1 - Nd (b + 1))) h b0 b1 (by omega) (by omega)
    (fun m p q => ⟨(z Nd 1).1.2 m p (by omega), (z Dp 1).1.2 m p (by omega), (z Wt 0).1.2 m p (by omega)⟩)
  rw [ew] at w0 w1 w2 w3 w4 ch
  have hch : ∀ j : Nat, (j : Int) < Cn b - 1 → t < tw_fw (tw_g1 Nd t 1 (b + 1 + Nd (b + 1)) (Nd b - 1 - Nd (b + 1))) t j ∧ tw_fw (tw_g1 Nd t 1 (b + 1 + Nd (b + 1)) (Nd b - 1 - Nd (b + 1))) t j < t + 1 + (Nd b - 1 - Nd (b + 1)) ∧ 0 ≤ tw_g1 Dp t 1 (b + 1 + Nd (b + 1)) (Nd b - 1 - Nd (b + 1)) (tw_fw (tw_g1 Nd t 1 (b + 1 + Nd (b + 1)) (Nd b - 1 - Nd (b + 1))) t j) ∧ tw_g1 Dp t 1 (b + 1 + Nd (b + 1)) (Nd b - 1 - Nd (b + 1)) (tw_fw (tw_g1 Nd t 1 (b + 1 + Nd (b + 1)) (Nd b - 1 - Nd (b + 1))) t j) ≤ 1000 := by
    intro j hj
    obtain ⟨i1, i2, i3, i4⟩ := ch j (by omega)
    have l := w1 (j + 1) (by omega)
    have hd' := h (tw_fw Nd b (j + 1)) (by omega) (by omega)
    have q1 := hd'.2.2.2.1
    have q2 := hd'.2.2.2.2.1
    rw [i1, (z Dp 1).1.2 (tw_fw Nd b (j + 1)) (by omega) (by omega)]
    omega
  have sl := tw_sealed_L (top := t + 1 + (Nd b - 1 - Nd (b + 1))) (r := t) (w := Cn b - 1) (Cn := tw_g1 Cn t (Cn b - 1) (b + 1 + Nd (b + 1)) (Nd b - 1 - Nd (b + 1))) (Nd := tw_g1 Nd t 1 (b + 1 + Nd (b + 1)) (Nd b - 1 - Nd (b + 1))) (Dp := tw_g1 Dp t 1 (b + 1 + Nd (b + 1)) (Nd b - 1 - Nd (b + 1))) (Wt := tw_g1 Wt t 0 (b + 1 + Nd (b + 1)) (Nd b - 1 - Nd (b + 1))) (by omega) (by omega) (by omega) (z Cn (Cn b - 1)).2 (by omega)
    (fun j hj => by have := hch j hj; omega) N 0 (by omega) (by omega)
  have fu := tw_fw_up (Nd := tw_g1 Nd t 1 (b + 1 + Nd (b + 1)) (Nd b - 1 - Nd (b + 1))) (Dp := tw_g1 Dp t 1 (b + 1 + Nd (b + 1)) (Nd b - 1 - Nd (b + 1))) (Wt := tw_g1 Wt t 0 (b + 1 + Nd (b + 1)) (Nd b - 1 - Nd (b + 1))) (t := t) (v := Nd b - Nd (b + 1)) (d := tw_dm (tw_g1 Nd t 1 (b + 1 + Nd (b + 1)) (Nd b - 1 - Nd (b + 1))) (tw_g1 Dp t 1 (b + 1 + Nd (b + 1)) (Nd b - 1 - Nd (b + 1))) t (Cn b - 1).toNat + 1) (w := tw_ws (tw_g1 Nd t 1 (b + 1 + Nd (b + 1)) (Nd b - 1 - Nd (b + 1))) (tw_g1 Wt t 0 (b + 1 + Nd (b + 1)) (Nd b - 1 - Nd (b + 1))) t (Cn b - 1).toNat) (Cn b - 1).toNat (fun j hj => (hch j (by omega)).1)
  refine ⟨tw_g1 Fm t 2 (b + 1 + Nd (b + 1)) (Nd b - 1 - Nd (b + 1)), tw_g1 Cn t (Cn b - 1) (b + 1 + Nd (b + 1)) (Nd b - 1 - Nd (b + 1)), tw_g1 Nm t 0 (b + 1 + Nd (b + 1)) (Nd b - 1 - Nd (b + 1)), upZ (tw_g1 Nd t 1 (b + 1 + Nd (b + 1)) (Nd b - 1 - Nd (b + 1))) t (Nd b - Nd (b + 1)), upZ (tw_g1 Dp t 1 (b + 1 + Nd (b + 1)) (Nd b - 1 - Nd (b + 1))) t (tw_dm (tw_g1 Nd t 1 (b + 1 + Nd (b + 1)) (Nd b - 1 - Nd (b + 1))) (tw_g1 Dp t 1 (b + 1 + Nd (b + 1)) (Nd b - 1 - Nd (b + 1))) t (Cn b - 1).toNat + 1), upZ (tw_g1 Wt t 0 (b + 1 + Nd (b + 1)) (Nd b - 1 - Nd (b + 1))) t (tw_ws (tw_g1 Nd t 1 (b + 1 + Nd (b + 1)) (Nd b - 1 - Nd (b + 1))) (tw_g1 Wt t 0 (b + 1 + Nd (b + 1)) (Nd b - 1 - Nd (b + 1))) t (Cn b - 1).toNat), ?_, ?_, ?_⟩
  · unfold f_DataRow_rest
    refine tw_bind_t (tw_dC_in b0 b1 (by omega)) ?_
    (first | refine tw_ite_t (by first | omega | (simp only [tw_gq]; omega)) ?_ | refine tw_ite_f (by first | omega | (simp only [tw_gq]; omega)) ?_)
    (first | refine tw_ite_t (by first | omega | (simp only [tw_gq]; omega)) ?_ | refine tw_ite_f (by first | omega | (simp only [tw_gq]; omega)) ?_)
    refine tw_bind_t (tw_dN_in (by omega) (by omega) (by omega)) ?_
    refine tw_bind_t (tw_dC_in b0 b1 (by omega)) ?_
    refine tw_ob8_t (tw_leaf_ok (by omega) (by omega) (by omega)) ?_
    refine tw_bind_t (tw_dN_in b0 (by omega) (by omega)) ?_
    rw [tw_upN Nd (show ¬ b = t by omega)]
    refine tw_ob8_t (tw_copy_ok (by omega) (by omega) (by omega) (by omega)) ?_
    (first | refine tw_ite_t (by first | omega | (simp only [tw_gq]; omega)) ?_ | refine tw_ite_f (by first | omega | (simp only [tw_gq]; omega)) ?_)
    (first | refine tw_ite_t (by first | omega | (simp only [tw_gq]; omega)) ?_ | refine tw_ite_f (by first | omega | (simp only [tw_gq]; omega)) ?_)
    refine tw_ob4_t (a1 := t) (a2 := upZ (tw_g1 Nd t 1 (b + 1 + Nd (b + 1)) (Nd b - 1 - Nd (b + 1))) t (Nd b - Nd (b + 1))) (a3 := upZ (tw_g1 Dp t 1 (b + 1 + Nd (b + 1)) (Nd b - 1 - Nd (b + 1))) t (tw_dm (tw_g1 Nd t 1 (b + 1 + Nd (b + 1)) (Nd b - 1 - Nd (b + 1))) (tw_g1 Dp t 1 (b + 1 + Nd (b + 1)) (Nd b - 1 - Nd (b + 1))) t (Cn b - 1).toNat + 1)) (a4 := upZ (tw_g1 Wt t 0 (b + 1 + Nd (b + 1)) (Nd b - 1 - Nd (b + 1))) t (tw_ws (tw_g1 Nd t 1 (b + 1 + Nd (b + 1)) (Nd b - 1 - Nd (b + 1))) (tw_g1 Wt t 0 (b + 1 + Nd (b + 1)) (Nd b - 1 - Nd (b + 1))) t (Cn b - 1).toNat)) ?_ ?_
    · unfold f_DataRow_sealed
      (first | refine tw_ite_t (by first | omega | (simp only [tw_gq]; omega)) ?_ | refine tw_ite_f (by first | omega | (simp only [tw_gq]; omega)) ?_)
      (first | refine tw_ite_t (by first | omega | (simp only [tw_gq]; omega)) ?_ | refine tw_ite_f (by first | omega | (simp only [tw_gq]; omega)) ?_)
      (first | refine tw_ite_t (by first | omega | (simp only [tw_gq]; omega)) ?_ | refine tw_ite_f (by first | omega | (simp only [tw_gq]; omega)) ?_)
      (first | refine tw_ite_t (by first | omega | (simp only [tw_gq]; omega)) ?_ | refine tw_ite_f (by first | omega | (simp only [tw_gq]; omega)) ?_)
      refine tw_ob4_t sl ?_
      (first | refine tw_ite_t (by first | omega | (simp only [tw_gq]; omega)) ?_ | refine tw_ite_f (by first | omega | (simp only [tw_gq]; omega)) ?_)
      (first | refine tw_ite_t (by first | omega | (simp only [tw_gq]; omega)) ?_ | refine tw_ite_f (by first | omega | (simp only [tw_gq]; omega)) ?_)
      (first | refine tw_ite_t (by first | omega | (simp only [tw_gq]; omega)) ?_ | refine tw_ite_f (by first | omega | (simp only [tw_gq]; omega)) ?_)
      rw [show t + 1 + (Nd b - 1 - Nd (b + 1)) - t = Nd b - Nd (b + 1) by omega]
      rfl
    · rw [show t + 1 + (Nd b - 1 - Nd (b + 1)) = t + Nd b - Nd (b + 1) by omega]
      rfl
  · exact ⟨(z _ _).1, (z _ _).1, (z _ _).1, (tw_PW1_up (z _ _).1).1, (tw_PW1_up (z _ _).1).1, (tw_PW1_up (z _ _).1).1, (z _ _).2, (z _ _).2, (z _ _).2, tw_upS _ _ _⟩
  · refine tw_rest_DR (s := t + 1 - (b + 1 + Nd (b + 1))) h b0 b1 hf hc rfl (by omega)
      (fun m hm => ⟨(z Fm 2).1.1 m hm, (z Cn _).1.1 m hm, (tw_PW1_up (z Nd 1).1).1 m hm, (tw_PW1_up (z Dp 1).1).1 m hm, (tw_PW1_up (z Wt 0).1).1 m hm⟩)
      (fun m p q => ⟨(z Fm 2).1.2 m p (by omega), (z Cn _).1.2 m p (by omega), (tw_PW1_up (z Nd 1).1).2 m p (by omega), (tw_PW1_up (z Dp 1).1).2 m p (by omega), (tw_PW1_up (z Wt 0).1).2 m p (by omega)⟩)
      (z _ _).2 (z _ _).2 (tw_upS _ _ _) ?_ ?_
    · rw [tw_upS, fu.2.1]
    · rw [tw_upS, fu.2.2]
