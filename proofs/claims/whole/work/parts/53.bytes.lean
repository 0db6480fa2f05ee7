set_option maxRecDepth 100000 in
def tw_by8 (x : Int) : Prop := -128 ≤ x ∧ x ≤ 127
set_option maxRecDepth 100000 in
theorem tw_app_L {top a n : Int} {row0 : Int → Int} (a0 : 0 ≤ a) (ha : a + n ≤ top) (ht : top + n ≤ 36864) (hb : ∀ k, 0 ≤ k → k < n → tw_by8 (row0 (a + k))) : ∀ (N : Nat) (i : Int) (row : Int → Int), 0 ≤ i → i ≤ n → (n - i).toNat < N → (∀ m, m < top → row m = row0 m) → (∀ k, 0 ≤ k → k < i → row (top + k) = row0 (a + k)) →
    ∃ row', f_ByteRow_append_L2 36864 top a n N i row = some (n, row') ∧ (∀ m, m < top → row' m = row0 m) ∧ (∀ k, 0 ≤ k → k < n → row' (top + k) = row0 (a + k)) := by
  intro N
  induction N with
  | zero => intro i row i0 i1 hN; omega
  | succ N ih =>
    intro i row i0 i1 hN h1 h2
    by_cases e : i = n
    · subst e
      refine ⟨row, ?_, h1, h2⟩
      unfold f_ByteRow_append_L2; (first | refine tw_ite_t (by first | omega | (simp only [tw_gq]; omega)) ?_ | refine tw_ite_f (by first | omega | (simp only [tw_gq]; omega)) ?_); (first | refine tw_ite_t (by first | omega | (simp only [tw_gq]; omega)) ?_ | refine tw_ite_f (by first | omega | (simp only [tw_gq]; omega)) ?_); rfl
    · have hbi := hb i i0 (by omega)
      have er : row (a + i) = row0 (a + i) := h1 _ (by omega)
      obtain ⟨row', r1, r2, r3⟩ := ih (i + 1) (upZ row (top + i) (row0 (a + i))) (by omega) (by omega) (by omega) (fun m hm => by rw [tw_upN _ (by omega)]; exact h1 m hm)
        (fun k k0 k1 => by
          by_cases ek : k = i
          · rw [ek, tw_upS]
          · rw [tw_upN _ (by omega)]; exact h2 k k0 (by omega))
      refine ⟨row', ?_, r2, r3⟩
      unfold f_ByteRow_append_L2
      (first | refine tw_ite_t (by first | omega | (simp only [tw_gq]; omega)) ?_ | refine tw_ite_f (by first | omega | (simp only [tw_gq]; omega)) ?_)
      (first | refine tw_ite_t (by first | omega | (simp only [tw_gq]; omega)) ?_ | refine tw_ite_f (by first | omega | (simp only [tw_gq]; omega)) ?_)
      refine tw_bind_t (tw_bat (by omega) (by omega) (by omega)) ?_
      refine tw_bind_t (tw_bput (by omega) (by omega) (by omega)) ?_
      rw [er, tw_jb8_and hbi]
      exact r1
set_option maxRecDepth 100000 in
theorem tw_app_ok {top a n : Int} {row : Int → Int} (a0 : 0 ≤ a) (n0 : 0 ≤ n) (n1 : n ≤ 64) (ha : a + n ≤ top) (ht : top + n ≤ 36864) (hb : ∀ k, 0 ≤ k → k < n → tw_by8 (row (a + k))) {N : Nat} (hN : 100 ≤ N) :
    ∃ row', f_ByteRow_append N 36864 top row a n = some (top + n, row') ∧ (∀ m, m < top → row' m = row m) ∧ (∀ k, 0 ≤ k → k < n → row' (top + k) = row (a + k)) := by
  obtain ⟨row', r1, r2, r3⟩ := tw_app_L a0 ha ht hb N 0 row (by omega) n0 (by omega) (fun _ _ => rfl) (fun k _ _ => by omega)
  refine ⟨row', ?_, r2, r3⟩
  unfold f_ByteRow_append
  refine tw_ob2_t r1 ?_
  (first | refine tw_ite_t (by first | omega | (simp only [tw_gq]; omega)) ?_ | refine tw_ite_f (by first | omega | (simp only [tw_gq]; omega)) ?_)
  rw [show max 0 n = n by omega]
set_option maxRecDepth 100000 in
theorem tw_rPut {te pu b : Int} {tx : Int → Int} (h0 : 0 ≤ te + pu) (h1 : te + pu < 70000) : f_Mod_putText te pu tx b = some (pu + 1, upZ tx (te + pu) (j_b8 (j_b8 b))) := by
  unfold f_Mod_putText; (first | refine tw_ite_t (by first | omega | (simp only [tw_gq]; omega)) ?_ | refine tw_ite_f (by first | omega | (simp only [tw_gq]; omega)) ?_); rfl
set_option maxRecDepth 100000 in
theorem tw_rByt {v k : Int} {fr tx : Int → Int} (v0 : 0 ≤ v) (v1 : v < 3700) (h0 : 0 ≤ fr v + k) (h1 : fr v + k < 70000) : f_Mod_byteOf fr tx v k = some (j_and (tx (fr v + k)) 255) := by
  unfold f_Mod_byteOf; (first | refine tw_ite_t (by first | omega | (simp only [tw_gq]; omega)) ?_ | refine tw_ite_f (by first | omega | (simp only [tw_gq]; omega)) ?_); (first | refine tw_ite_t (by first | omega | (simp only [tw_gq]; omega)) ?_ | refine tw_ite_f (by first | omega | (simp only [tw_gq]; omega)) ?_); rfl
set_option maxRecDepth 100000 in
theorem tw_join_L {te x1 x2 : Int} {fr le of tx0 : Int → Int} (te0 : 0 ≤ te) (h2 : 0 ≤ x2 ∧ x2 < 3700) (h1 : 0 ≤ of 1 ∧ of 1 < 3700) (la : 0 ≤ le x2) (lb : 0 ≤ le (of 1)) (ll : le x2 + le (of 1) ≤ 64) (ht : te + 64 < 70000) (fa : 0 ≤ fr x2 ∧ fr x2 + le x2 ≤ te) (fb : 0 ≤ fr (of 1) ∧ fr (of 1) + le (of 1) ≤ te)
    (ba : ∀ k, 0 ≤ k → k < le x2 → tw_by8 (tx0 (fr x2 + k))) (bb : ∀ k, 0 ≤ k → k < le (of 1) → tw_by8 (tx0 (fr (of 1) + k))) : ∀ (N : Nat) (i : Int) (tx : Int → Int), 0 ≤ i → i ≤ le x2 + le (of 1) → (le x2 + le (of 1) - i).toNat < N → (∀ m, m < te → tx m = tx0 m) → (∀ k, 0 ≤ k → k < i → tx (te + k) = (if k < le x2 then tx0 (fr x2 + k) else tx0 (fr (of 1) + (k - le x2)))) →
    ∃ tx', f_Mod_ofBytes_L79 te fr le of x1 x2 N i i tx = some (le x2 + le (of 1), le x2 + le (of 1), tx') ∧ (∀ m, m < te → tx' m = tx0 m) ∧ (∀ k, 0 ≤ k → k < le x2 + le (of 1) → tx' (te + k) = (if k < le x2 then tx0 (fr x2 + k) else tx0 (fr (of 1) + (k - le x2)))) := by
  intro N
  induction N with
  | zero => intro i tx i0 i1 hN; omega
  | succ N ih =>
    intro i tx i0 i1 hN tw_g1 tw_g2
    by_cases e : i = le x2 + le (of 1)
    · refine ⟨tx, ?_, tw_g1, fun k k0 k1 => tw_g2 k k0 (by omega)⟩
      unfold f_Mod_ofBytes_L79; (first | refine tw_ite_t (by first | omega | (simp only [tw_gq]; omega)) ?_ | refine tw_ite_f (by first | omega | (simp only [tw_gq]; omega)) ?_); (first | refine tw_ite_t (by first | omega | (simp only [tw_gq]; omega)) ?_ | refine tw_ite_f (by first | omega | (simp only [tw_gq]; omega)) ?_); (first | refine tw_ite_t (by first | omega | (simp only [tw_gq]; omega)) ?_ | refine tw_ite_f (by first | omega | (simp only [tw_gq]; omega)) ?_); (first | refine tw_ite_t (by first | omega | (simp only [tw_gq]; omega)) ?_ | refine tw_ite_f (by first | omega | (simp only [tw_gq]; omega)) ?_); (first | refine tw_ite_t (by first | omega | (simp only [tw_gq]; omega)) ?_ | refine tw_ite_f (by first | omega | (simp only [tw_gq]; omega)) ?_); rw [e]
    · have step : ∀ v, v = (if i < le x2 then tx0 (fr x2 + i) else tx0 (fr (of 1) + (i - le x2))) → ∃ tx', f_Mod_ofBytes_L79 te fr le of x1 x2 N (i + 1) (i + 1) (upZ tx (te + i) v) = some (le x2 + le (of 1), le x2 + le (of 1), tx') ∧ (∀ m, m < te → tx' m = tx0 m) ∧ (∀ k, 0 ≤ k → k < le x2 + le (of 1) → tx' (te + k) = (if k < le x2 then tx0 (fr x2 + k) else tx0 (fr (of 1) + (k - le x2)))) := by
        intro v hv
        refine ih (i + 1) _ (by omega) (by omega) (by omega) (fun m hm => by rw [tw_upN _ (by omega)]; exact tw_g1 m hm) (fun k k0 k1 => ?_)
        by_cases ek : k = i
        · rw [ek, tw_upS]; exact hv
        · rw [tw_upN _ (by omega)]; exact tw_g2 k k0 (by omega)
      by_cases c : i < le x2
      · obtain ⟨tx', r1, r2, r3⟩ := step (tx0 (fr x2 + i)) (by rw [if_pos c])
        refine ⟨tx', ?_, r2, r3⟩
        unfold f_Mod_ofBytes_L79; (first | refine tw_ite_t (by first | omega | (simp only [tw_gq]; omega)) ?_ | refine tw_ite_f (by first | omega | (simp only [tw_gq]; omega)) ?_); (first | refine tw_ite_t (by first | omega | (simp only [tw_gq]; omega)) ?_ | refine tw_ite_f (by first | omega | (simp only [tw_gq]; omega)) ?_); (first | refine tw_ite_t (by first | omega | (simp only [tw_gq]; omega)) ?_ | refine tw_ite_f (by first | omega | (simp only [tw_gq]; omega)) ?_); (first | refine tw_ite_t (by first | omega | (simp only [tw_gq]; omega)) ?_ | refine tw_ite_f (by first | omega | (simp only [tw_gq]; omega)) ?_); (first | refine tw_ite_t (by first | omega | (simp only [tw_gq]; omega)) ?_ | refine tw_ite_f (by first | omega | (simp only [tw_gq]; omega)) ?_); (first | refine tw_ite_t (by first | omega | (simp only [tw_gq]; omega)) ?_ | refine tw_ite_f (by first | omega | (simp only [tw_gq]; omega)) ?_); (first | refine tw_ite_t (by first | omega | (simp only [tw_gq]; omega)) ?_ | refine tw_ite_f (by first | omega | (simp only [tw_gq]; omega)) ?_); (first | refine tw_ite_t (by first | omega | (simp only [tw_gq]; omega)) ?_ | refine tw_ite_f (by first | omega | (simp only [tw_gq]; omega)) ?_)
        refine tw_bind_t (tw_rByt h2.1 h2.2 (by omega) (by omega)) ?_
        refine tw_ob2_t (tw_rPut (by omega) (by omega)) ?_
        rw [tw_g1 (fr x2 + i) (by omega), tw_jb8_and (ba i i0 c)]
        exact r1
      · obtain ⟨tx', r1, r2, r3⟩ := step (tx0 (fr (of 1) + (i - le x2))) (by rw [if_neg c])
        refine ⟨tx', ?_, r2, r3⟩
        unfold f_Mod_ofBytes_L79; (first | refine tw_ite_t (by first | omega | (simp only [tw_gq]; omega)) ?_ | refine tw_ite_f (by first | omega | (simp only [tw_gq]; omega)) ?_); (first | refine tw_ite_t (by first | omega | (simp only [tw_gq]; omega)) ?_ | refine tw_ite_f (by first | omega | (simp only [tw_gq]; omega)) ?_); (first | refine tw_ite_t (by first | omega | (simp only [tw_gq]; omega)) ?_ | refine tw_ite_f (by first | omega | (simp only [tw_gq]; omega)) ?_); (first | refine tw_ite_t (by first | omega | (simp only [tw_gq]; omega)) ?_ | refine tw_ite_f (by first | omega | (simp only [tw_gq]; omega)) ?_); (first | refine tw_ite_t (by first | omega | (simp only [tw_gq]; omega)) ?_ | refine tw_ite_f (by first | omega | (simp only [tw_gq]; omega)) ?_); (first | refine tw_ite_t (by first | omega | (simp only [tw_gq]; omega)) ?_ | refine tw_ite_f (by first | omega | (simp only [tw_gq]; omega)) ?_); (first | refine tw_ite_t (by first | omega | (simp only [tw_gq]; omega)) ?_ | refine tw_ite_f (by first | omega | (simp only [tw_gq]; omega)) ?_); (first | refine tw_ite_t (by first | omega | (simp only [tw_gq]; omega)) ?_ | refine tw_ite_f (by first | omega | (simp only [tw_gq]; omega)) ?_); (first | refine tw_ite_t (by first | omega | (simp only [tw_gq]; omega)) ?_ | refine tw_ite_f (by first | omega | (simp only [tw_gq]; omega)) ?_); (first | refine tw_ite_t (by first | omega | (simp only [tw_gq]; omega)) ?_ | refine tw_ite_f (by first | omega | (simp only [tw_gq]; omega)) ?_)
        refine tw_bind_t (tw_rByt h1.1 h1.2 (by omega) (by omega)) ?_
        refine tw_ob2_t (tw_rPut (by omega) (by omega)) ?_
        rw [tw_g1 (fr (of 1) + (i - le x2)) (by omega), tw_jb8_and (bb (i - le x2) (by omega) (by omega))]
        exact r1
set_option maxRecDepth 100000 in
theorem tw_slice_L {te x1 x2 p m f n : Int} {vn fr le of tx0 : Int → Int} (te0 : 0 ≤ te) (h2 : 0 ≤ x2 ∧ x2 < 3700) (h1 : 0 ≤ of 1 ∧ of 1 < 3700) (h3 : 0 ≤ of 2 ∧ of 2 < 3700) (lb : 0 ≤ le (of 2) ∧ le (of 2) ≤ 64) (ht : te + 64 < 70000) (fb : 0 ≤ fr (of 2) ∧ fr (of 2) + le (of 2) ≤ te)
    (ep : vn x2 = p) (em : vn (of 1) = m) (rp : -9223372036854775808 ≤ p ∧ p ≤ 9223372036854775807) (rm : -9223372036854775808 ≤ m ∧ m ≤ 9223372036854775807) (hf : f = min (max 0 p) (le (of 2))) (hn : n = min (max 0 m) (le (of 2) - f))
    (bb : ∀ k, 0 ≤ k → k < le (of 2) → tw_by8 (tx0 (fr (of 2) + k))) : ∀ (N : Nat) (i u : Int) (tx : Int → Int), 0 ≤ i → i ≤ le (of 2) → (le (of 2) - i).toNat < N → u = min (max 0 (i - f)) n → (∀ m, m < te → tx m = tx0 m) → (∀ k, 0 ≤ k → k < u → tx (te + k) = tx0 (fr (of 2) + f + k)) →
    ∃ tx', f_Mod_ofBytes_L224 te vn fr le of x1 x2 N i u tx = some (le (of 2), n, tx') ∧ (∀ m, m < te → tx' m = tx0 m) ∧ (∀ k, 0 ≤ k → k < n → tx' (te + k) = tx0 (fr (of 2) + f + k)) := by
  intro N
  induction N with
  | zero => intro i u tx i0 i1 hN; omega
  | succ N ih =>
    intro i u tx i0 i1 hN hu tw_g1 tw_g2
    by_cases e : i = le (of 2)
    · refine ⟨tx, ?_, tw_g1, fun k k0 k1 => tw_g2 k k0 (by omega)⟩
      unfold f_Mod_ofBytes_L224; (first | refine tw_ite_t (by first | omega | (simp only [tw_gq]; omega)) ?_ | refine tw_ite_f (by first | omega | (simp only [tw_gq]; omega)) ?_); (first | refine tw_ite_t (by first | omega | (simp only [tw_gq]; omega)) ?_ | refine tw_ite_f (by first | omega | (simp only [tw_gq]; omega)) ?_); (first | refine tw_ite_t (by first | omega | (simp only [tw_gq]; omega)) ?_ | refine tw_ite_f (by first | omega | (simp only [tw_gq]; omega)) ?_); (first | refine tw_ite_t (by first | omega | (simp only [tw_gq]; omega)) ?_ | refine tw_ite_f (by first | omega | (simp only [tw_gq]; omega)) ?_); rw [← e, show u = n by omega]
    · by_cases c : f ≤ i ∧ i < f + n
      · obtain ⟨tx', r1, r2, r3⟩ := ih (i + 1) (u + 1) (upZ tx (te + u) (tx0 (fr (of 2) + i))) (by omega) (by omega) (by omega) (by omega) (fun m hm => by rw [tw_upN _ (by omega)]; exact tw_g1 m hm) (fun k k0 k1 => by
          by_cases ek : k = u
          · rw [ek, tw_upS, show fr (of 2) + f + u = fr (of 2) + i by omega]
          · rw [tw_upN _ (by omega)]; exact tw_g2 k k0 (by omega))
        refine ⟨tx', ?_, r2, r3⟩
        have z := tw_jb8_and (bb i i0 (by omega))
        unfold f_Mod_ofBytes_L224
        rw [ep, em]
        by_cases c2 : 0 ≤ p
        · (first | refine tw_ite_t (by first | omega | (simp only [tw_gq]; omega)) ?_ | refine tw_ite_f (by first | omega | (simp only [tw_gq]; omega)) ?_); (first | refine tw_ite_t (by first | omega | (simp only [tw_gq]; omega)) ?_ | refine tw_ite_f (by first | omega | (simp only [tw_gq]; omega)) ?_); (first | refine tw_ite_t (by first | omega | (simp only [tw_gq]; omega)) ?_ | refine tw_ite_f (by first | omega | (simp only [tw_gq]; omega)) ?_); (first | refine tw_ite_t (by first | omega | (simp only [tw_gq]; omega)) ?_ | refine tw_ite_f (by first | omega | (simp only [tw_gq]; omega)) ?_); (first | refine tw_ite_t (by first | omega | (simp only [tw_gq]; omega)) ?_ | refine tw_ite_f (by first | omega | (simp only [tw_gq]; omega)) ?_); (first | refine tw_ite_t (by first | omega | (simp only [tw_gq]; omega)) ?_ | refine tw_ite_f (by first | omega | (simp only [tw_gq]; omega)) ?_); (first | refine tw_ite_t (by first | omega | (simp only [tw_gq]; omega)) ?_ | refine tw_ite_f (by first | omega | (simp only [tw_gq]; omega)) ?_); (first | refine tw_ite_t (by first | omega | (simp only [tw_gq]; omega)) ?_ | refine tw_ite_f (by first | omega | (simp only [tw_gq]; omega)) ?_); (first | refine tw_ite_t (by first | omega | (simp only [tw_gq]; omega)) ?_ | refine tw_ite_f (by first | omega | (simp only [tw_gq]; omega)) ?_); (first | refine tw_ite_t (by first | omega | (simp only [tw_gq]; omega)) ?_ | refine tw_ite_f (by first | omega | (simp only [tw_gq]; omega)) ?_); (first | refine tw_ite_t (by first | omega | (simp only [tw_gq]; omega)) ?_ | refine tw_ite_f (by first | omega | (simp only [tw_gq]; omega)) ?_); (first | refine tw_ite_t (by first | omega | (simp only [tw_gq]; omega)) ?_ | refine tw_ite_f (by first | omega | (simp only [tw_gq]; omega)) ?_); (first | refine tw_ite_t (by first | omega | (simp only [tw_gq]; omega)) ?_ | refine tw_ite_f (by first | omega | (simp only [tw_gq]; omega)) ?_); (first | refine tw_ite_t (by first | omega | (simp only [tw_gq]; omega)) ?_ | refine tw_ite_f (by first | omega | (simp only [tw_gq]; omega)) ?_); (first | refine tw_ite_t (by first | omega | (simp only [tw_gq]; omega)) ?_ | refine tw_ite_f (by first | omega | (simp only [tw_gq]; omega)) ?_); (first | refine tw_ite_t (by first | omega | (simp only [tw_gq]; omega)) ?_ | refine tw_ite_f (by first | omega | (simp only [tw_gq]; omega)) ?_); (first | refine tw_ite_t (by first | omega | (simp only [tw_gq]; omega)) ?_ | refine tw_ite_f (by first | omega | (simp only [tw_gq]; omega)) ?_)
          refine tw_bind_t (tw_rByt h3.1 h3.2 (by omega) (by omega)) ?_
          refine tw_ob2_t (tw_rPut (by omega) (by omega)) ?_
          rw [tw_g1 (fr (of 2) + i) (by omega), z]
          exact r1
        · (first | refine tw_ite_t (by first | omega | (simp only [tw_gq]; omega)) ?_ | refine tw_ite_f (by first | omega | (simp only [tw_gq]; omega)) ?_); (first | refine tw_ite_t (by first | omega | (simp only [tw_gq]; omega)) ?_ | refine tw_ite_f (by first | omega | (simp only [tw_gq]; omega)) ?_); (first | refine tw_ite_t (by first | omega | (simp only [tw_gq]; omega)) ?_ | refine tw_ite_f (by first | omega | (simp only [tw_gq]; omega)) ?_); (first | refine tw_ite_t (by first | omega | (simp only [tw_gq]; omega)) ?_ | refine tw_ite_f (by first | omega | (simp only [tw_gq]; omega)) ?_); (first | refine tw_ite_t (by first | omega | (simp only [tw_gq]; omega)) ?_ | refine tw_ite_f (by first | omega | (simp only [tw_gq]; omega)) ?_); (first | refine tw_ite_t (by first | omega | (simp only [tw_gq]; omega)) ?_ | refine tw_ite_f (by first | omega | (simp only [tw_gq]; omega)) ?_); (first | refine tw_ite_t (by first | omega | (simp only [tw_gq]; omega)) ?_ | refine tw_ite_f (by first | omega | (simp only [tw_gq]; omega)) ?_); (first | refine tw_ite_t (by first | omega | (simp only [tw_gq]; omega)) ?_ | refine tw_ite_f (by first | omega | (simp only [tw_gq]; omega)) ?_); (first | refine tw_ite_t (by first | omega | (simp only [tw_gq]; omega)) ?_ | refine tw_ite_f (by first | omega | (simp only [tw_gq]; omega)) ?_); (first | refine tw_ite_t (by first | omega | (simp only [tw_gq]; omega)) ?_ | refine tw_ite_f (by first | omega | (simp only [tw_gq]; omega)) ?_); (first | refine tw_ite_t (by first | omega | (simp only [tw_gq]; omega)) ?_ | refine tw_ite_f (by first | omega | (simp only [tw_gq]; omega)) ?_); (first | refine tw_ite_t (by first | omega | (simp only [tw_gq]; omega)) ?_ | refine tw_ite_f (by first | omega | (simp only [tw_gq]; omega)) ?_); (first | refine tw_ite_t (by first | omega | (simp only [tw_gq]; omega)) ?_ | refine tw_ite_f (by first | omega | (simp only [tw_gq]; omega)) ?_); (first | refine tw_ite_t (by first | omega | (simp only [tw_gq]; omega)) ?_ | refine tw_ite_f (by first | omega | (simp only [tw_gq]; omega)) ?_); (first | refine tw_ite_t (by first | omega | (simp only [tw_gq]; omega)) ?_ | refine tw_ite_f (by first | omega | (simp only [tw_gq]; omega)) ?_); (first | refine tw_ite_t (by first | omega | (simp only [tw_gq]; omega)) ?_ | refine tw_ite_f (by first | omega | (simp only [tw_gq]; omega)) ?_)
          refine tw_bind_t (tw_rByt h3.1 h3.2 (by omega) (by omega)) ?_
          refine tw_ob2_t (tw_rPut (by omega) (by omega)) ?_
          rw [tw_g1 (fr (of 2) + i) (by omega), z]
          exact r1
      · obtain ⟨tx', r1, r2, r3⟩ := ih (i + 1) u tx (by omega) (by omega) (by omega) (by omega) tw_g1 tw_g2
        refine ⟨tx', ?_, r2, r3⟩
        unfold f_Mod_ofBytes_L224
        rw [ep, em]
        by_cases c2 : 0 ≤ p
        · by_cases c3 : i < p
          · (first | refine tw_ite_t (by first | omega | (simp only [tw_gq]; omega)) ?_ | refine tw_ite_f (by first | omega | (simp only [tw_gq]; omega)) ?_); (first | refine tw_ite_t (by first | omega | (simp only [tw_gq]; omega)) ?_ | refine tw_ite_f (by first | omega | (simp only [tw_gq]; omega)) ?_); (first | refine tw_ite_t (by first | omega | (simp only [tw_gq]; omega)) ?_ | refine tw_ite_f (by first | omega | (simp only [tw_gq]; omega)) ?_); (first | refine tw_ite_t (by first | omega | (simp only [tw_gq]; omega)) ?_ | refine tw_ite_f (by first | omega | (simp only [tw_gq]; omega)) ?_); (first | refine tw_ite_t (by first | omega | (simp only [tw_gq]; omega)) ?_ | refine tw_ite_f (by first | omega | (simp only [tw_gq]; omega)) ?_); (first | refine tw_ite_t (by first | omega | (simp only [tw_gq]; omega)) ?_ | refine tw_ite_f (by first | omega | (simp only [tw_gq]; omega)) ?_); (first | refine tw_ite_t (by first | omega | (simp only [tw_gq]; omega)) ?_ | refine tw_ite_f (by first | omega | (simp only [tw_gq]; omega)) ?_); (first | refine tw_ite_t (by first | omega | (simp only [tw_gq]; omega)) ?_ | refine tw_ite_f (by first | omega | (simp only [tw_gq]; omega)) ?_); (first | refine tw_ite_t (by first | omega | (simp only [tw_gq]; omega)) ?_ | refine tw_ite_f (by first | omega | (simp only [tw_gq]; omega)) ?_); (first | refine tw_ite_t (by first | omega | (simp only [tw_gq]; omega)) ?_ | refine tw_ite_f (by first | omega | (simp only [tw_gq]; omega)) ?_); (first | refine tw_ite_t (by first | omega | (simp only [tw_gq]; omega)) ?_ | refine tw_ite_f (by first | omega | (simp only [tw_gq]; omega)) ?_)
            exact r1
          · (first | refine tw_ite_t (by first | omega | (simp only [tw_gq]; omega)) ?_ | refine tw_ite_f (by first | omega | (simp only [tw_gq]; omega)) ?_); (first | refine tw_ite_t (by first | omega | (simp only [tw_gq]; omega)) ?_ | refine tw_ite_f (by first | omega | (simp only [tw_gq]; omega)) ?_); (first | refine tw_ite_t (by first | omega | (simp only [tw_gq]; omega)) ?_ | refine tw_ite_f (by first | omega | (simp only [tw_gq]; omega)) ?_); (first | refine tw_ite_t (by first | omega | (simp only [tw_gq]; omega)) ?_ | refine tw_ite_f (by first | omega | (simp only [tw_gq]; omega)) ?_); (first | refine tw_ite_t (by first | omega | (simp only [tw_gq]; omega)) ?_ | refine tw_ite_f (by first | omega | (simp only [tw_gq]; omega)) ?_); (first | refine tw_ite_t (by first | omega | (simp only [tw_gq]; omega)) ?_ | refine tw_ite_f (by first | omega | (simp only [tw_gq]; omega)) ?_); (first | refine tw_ite_t (by first | omega | (simp only [tw_gq]; omega)) ?_ | refine tw_ite_f (by first | omega | (simp only [tw_gq]; omega)) ?_); (first | refine tw_ite_t (by first | omega | (simp only [tw_gq]; omega)) ?_ | refine tw_ite_f (by first | omega | (simp only [tw_gq]; omega)) ?_); (first | refine tw_ite_t (by first | omega | (simp only [tw_gq]; omega)) ?_ | refine tw_ite_f (by first | omega | (simp only [tw_gq]; omega)) ?_); (first | refine tw_ite_t (by first | omega | (simp only [tw_gq]; omega)) ?_ | refine tw_ite_f (by first | omega | (simp only [tw_gq]; omega)) ?_); (first | refine tw_ite_t (by first | omega | (simp only [tw_gq]; omega)) ?_ | refine tw_ite_f (by first | omega | (simp only [tw_gq]; omega)) ?_); (first | refine tw_ite_t (by first | omega | (simp only [tw_gq]; omega)) ?_ | refine tw_ite_f (by first | omega | (simp only [tw_gq]; omega)) ?_); (first | refine tw_ite_t (by first | omega | (simp only [tw_gq]; omega)) ?_ | refine tw_ite_f (by first | omega | (simp only [tw_gq]; omega)) ?_); (first | refine tw_ite_t (by first | omega | (simp only [tw_gq]; omega)) ?_ | refine tw_ite_f (by first | omega | (simp only [tw_gq]; omega)) ?_); (first | refine tw_ite_t (by first | omega | (simp only [tw_gq]; omega)) ?_ | refine tw_ite_f (by first | omega | (simp only [tw_gq]; omega)) ?_); (first | refine tw_ite_t (by first | omega | (simp only [tw_gq]; omega)) ?_ | refine tw_ite_f (by first | omega | (simp only [tw_gq]; omega)) ?_)
            exact r1
        · (first | refine tw_ite_t (by first | omega | (simp only [tw_gq]; omega)) ?_ | refine tw_ite_f (by first | omega | (simp only [tw_gq]; omega)) ?_); (first | refine tw_ite_t (by first | omega | (simp only [tw_gq]; omega)) ?_ | refine tw_ite_f (by first | omega | (simp only [tw_gq]; omega)) ?_); (first | refine tw_ite_t (by first | omega | (simp only [tw_gq]; omega)) ?_ | refine tw_ite_f (by first | omega | (simp only [tw_gq]; omega)) ?_); (first | refine tw_ite_t (by first | omega | (simp only [tw_gq]; omega)) ?_ | refine tw_ite_f (by first | omega | (simp only [tw_gq]; omega)) ?_); (first | refine tw_ite_t (by first | omega | (simp only [tw_gq]; omega)) ?_ | refine tw_ite_f (by first | omega | (simp only [tw_gq]; omega)) ?_); (first | refine tw_ite_t (by first | omega | (simp only [tw_gq]; omega)) ?_ | refine tw_ite_f (by first | omega | (simp only [tw_gq]; omega)) ?_); (first | refine tw_ite_t (by first | omega | (simp only [tw_gq]; omega)) ?_ | refine tw_ite_f (by first | omega | (simp only [tw_gq]; omega)) ?_); (first | refine tw_ite_t (by first | omega | (simp only [tw_gq]; omega)) ?_ | refine tw_ite_f (by first | omega | (simp only [tw_gq]; omega)) ?_); (first | refine tw_ite_t (by first | omega | (simp only [tw_gq]; omega)) ?_ | refine tw_ite_f (by first | omega | (simp only [tw_gq]; omega)) ?_); (first | refine tw_ite_t (by first | omega | (simp only [tw_gq]; omega)) ?_ | refine tw_ite_f (by first | omega | (simp only [tw_gq]; omega)) ?_); (first | refine tw_ite_t (by first | omega | (simp only [tw_gq]; omega)) ?_ | refine tw_ite_f (by first | omega | (simp only [tw_gq]; omega)) ?_); (first | refine tw_ite_t (by first | omega | (simp only [tw_gq]; omega)) ?_ | refine tw_ite_f (by first | omega | (simp only [tw_gq]; omega)) ?_); (first | refine tw_ite_t (by first | omega | (simp only [tw_gq]; omega)) ?_ | refine tw_ite_f (by first | omega | (simp only [tw_gq]; omega)) ?_); (first | refine tw_ite_t (by first | omega | (simp only [tw_gq]; omega)) ?_ | refine tw_ite_f (by first | omega | (simp only [tw_gq]; omega)) ?_); (first | refine tw_ite_t (by first | omega | (simp only [tw_gq]; omega)) ?_ | refine tw_ite_f (by first | omega | (simp only [tw_gq]; omega)) ?_)
          exact r1
set_option maxRecDepth 100000 in
theorem tw_d2b_L {te x1 x2 d x4 n : Int} {cn at' tx0 : Int → Int} (te0 : 0 ≤ te) (hd : 0 ≤ d ∧ d < 5000) (hc : cn d = n) (hn : 0 ≤ n ∧ n ≤ 64) (ht : te + 64 < 70000) (fb : 0 ≤ at' d ∧ at' d + n ≤ te) (bb : ∀ k, 0 ≤ k → k < n → tw_by8 (tx0 (at' d + k))) : ∀ (N : Nat) (i : Int) (tx : Int → Int), 0 ≤ i → i ≤ n → (n - i).toNat < N → (∀ m, m < te → tx m = tx0 m) → (∀ k, 0 ≤ k → k < i → tx (te + k) = tx0 (at' d + k)) →
    ∃ tx', f_Mod_ofData_L253 te cn at' x1 x2 d x4 N i i tx = some (n, n, tx') ∧ (∀ m, m < te → tx' m = tx0 m) ∧ (∀ k, 0 ≤ k → k < n → tx' (te + k) = tx0 (at' d + k)) := by
  intro N
  induction N with
  | zero => intro i tx i0 i1 hN; omega
  | succ N ih =>
    intro i tx i0 i1 hN tw_g1 tw_g2
    by_cases e : i = n
    · refine ⟨tx, ?_, tw_g1, fun k k0 k1 => tw_g2 k k0 (by omega)⟩
      unfold f_Mod_ofData_L253; (first | refine tw_ite_t (by first | omega | (simp only [tw_gq]; omega)) ?_ | refine tw_ite_f (by first | omega | (simp only [tw_gq]; omega)) ?_); (first | refine tw_ite_t (by first | omega | (simp only [tw_gq]; omega)) ?_ | refine tw_ite_f (by first | omega | (simp only [tw_gq]; omega)) ?_); (first | refine tw_ite_t (by first | omega | (simp only [tw_gq]; omega)) ?_ | refine tw_ite_f (by first | omega | (simp only [tw_gq]; omega)) ?_); rw [e]
    · obtain ⟨tx', r1, r2, r3⟩ := ih (i + 1) (upZ tx (te + i) (tx0 (at' d + i))) (by omega) (by omega) (by omega) (fun m hm => by rw [tw_upN _ (by omega)]; exact tw_g1 m hm) (fun k k0 k1 => by
        by_cases ek : k = i
        · rw [ek, tw_upS]
        · rw [tw_upN _ (by omega)]; exact tw_g2 k k0 (by omega))
      refine ⟨tx', ?_, r2, r3⟩
      have z := bb i i0 (by omega)
      unfold f_Mod_ofData_L253; (first | refine tw_ite_t (by first | omega | (simp only [tw_gq]; omega)) ?_ | refine tw_ite_f (by first | omega | (simp only [tw_gq]; omega)) ?_); (first | refine tw_ite_t (by first | omega | (simp only [tw_gq]; omega)) ?_ | refine tw_ite_f (by first | omega | (simp only [tw_gq]; omega)) ?_); (first | refine tw_ite_t (by first | omega | (simp only [tw_gq]; omega)) ?_ | refine tw_ite_f (by first | omega | (simp only [tw_gq]; omega)) ?_); (first | refine tw_ite_t (by first | omega | (simp only [tw_gq]; omega)) ?_ | refine tw_ite_f (by first | omega | (simp only [tw_gq]; omega)) ?_); (first | refine tw_ite_t (by first | omega | (simp only [tw_gq]; omega)) ?_ | refine tw_ite_f (by first | omega | (simp only [tw_gq]; omega)) ?_)
      refine tw_ob2_t (tw_rPut (by omega) (by omega)) ?_
      rw [tw_g1 (at' d + i) (by omega), tw_jb8_id z, tw_jb8_id z]
      exact r1
set_option maxRecDepth 100000 in
theorem tw_cmp_L {a la b lb va vb : Int} {VB fr le tx : Int → Int} (a0 : 0 ≤ a ∧ a + la ≤ 36864) (b0 : 0 ≤ b ∧ b + lb ≤ 36864) (la0 : 0 ≤ la ∧ la ≤ 64) (lb0 : 0 ≤ lb ∧ lb ≤ 64) (hva : 0 ≤ va ∧ va < 3700) (hvb : 0 ≤ vb ∧ vb < 3700) (ela : le va = la) (elb : le vb = lb) (fa : 0 ≤ fr va ∧ fr va + la ≤ 70000) (fb : 0 ≤ fr vb ∧ fr vb + lb ≤ 70000)
    (ba : ∀ k, 0 ≤ k → k < la → VB (a + k) = tx (fr va + k) ∧ tw_by8 (VB (a + k))) (bb : ∀ k, 0 ≤ k → k < lb → VB (b + k) = tx (fr vb + k) ∧ tw_by8 (VB (b + k))) : ∀ (N : Nat) (i : Int), 0 ≤ i → i ≤ min la lb → (min la lb - i).toNat < N →
    ∃ r, f_ByteRow_compare_L11 36864 VB N a la b lb (min la lb) i = some r ∧ f_Mod_order_L2 fr le tx N va vb i = some r ∧ -1000 ≤ r ∧ r ≤ 1000 := by
  intro N
  induction N with
  | zero => intro i i0 i1 hN; omega
  | succ N ih =>
    intro i i0 i1 hN
    by_cases e : i = min la lb
    · refine ⟨la - lb, ?_, ?_, by omega, by omega⟩
      · unfold f_ByteRow_compare_L11; (first | refine tw_ite_t (by first | omega | (simp only [tw_gq]; omega)) ?_ | refine tw_ite_f (by first | omega | (simp only [tw_gq]; omega)) ?_); (first | refine tw_ite_t (by first | omega | (simp only [tw_gq]; omega)) ?_ | refine tw_ite_f (by first | omega | (simp only [tw_gq]; omega)) ?_); rfl
      · unfold f_Mod_order_L2
        rw [ela, elb]
        by_cases c : la ≤ i
        · (first | refine tw_ite_t (by first | omega | (simp only [tw_gq]; omega)) ?_ | refine tw_ite_f (by first | omega | (simp only [tw_gq]; omega)) ?_); (first | refine tw_ite_t (by first | omega | (simp only [tw_gq]; omega)) ?_ | refine tw_ite_f (by first | omega | (simp only [tw_gq]; omega)) ?_); (first | refine tw_ite_t (by first | omega | (simp only [tw_gq]; omega)) ?_ | refine tw_ite_f (by first | omega | (simp only [tw_gq]; omega)) ?_); (first | refine tw_ite_t (by first | omega | (simp only [tw_gq]; omega)) ?_ | refine tw_ite_f (by first | omega | (simp only [tw_gq]; omega)) ?_); (first | refine tw_ite_t (by first | omega | (simp only [tw_gq]; omega)) ?_ | refine tw_ite_f (by first | omega | (simp only [tw_gq]; omega)) ?_); rfl
        · (first | refine tw_ite_t (by first | omega | (simp only [tw_gq]; omega)) ?_ | refine tw_ite_f (by first | omega | (simp only [tw_gq]; omega)) ?_); (first | refine tw_ite_t (by first | omega | (simp only [tw_gq]; omega)) ?_ | refine tw_ite_f (by first | omega | (simp only [tw_gq]; omega)) ?_); (first | refine tw_ite_t (by first | omega | (simp only [tw_gq]; omega)) ?_ | refine tw_ite_f (by first | omega | (simp only [tw_gq]; omega)) ?_); (first | refine tw_ite_t (by first | omega | (simp only [tw_gq]; omega)) ?_ | refine tw_ite_f (by first | omega | (simp only [tw_gq]; omega)) ?_); (first | refine tw_ite_t (by first | omega | (simp only [tw_gq]; omega)) ?_ | refine tw_ite_f (by first | omega | (simp only [tw_gq]; omega)) ?_); (first | refine tw_ite_t (by first | omega | (simp only [tw_gq]; omega)) ?_ | refine tw_ite_f (by first | omega | (simp only [tw_gq]; omega)) ?_); (first | refine tw_ite_t (by first | omega | (simp only [tw_gq]; omega)) ?_ | refine tw_ite_f (by first | omega | (simp only [tw_gq]; omega)) ?_); (first | refine tw_ite_t (by first | omega | (simp only [tw_gq]; omega)) ?_ | refine tw_ite_f (by first | omega | (simp only [tw_gq]; omega)) ?_); rfl
    · obtain ⟨p1, p2⟩ := ba i i0 (by omega)
      obtain ⟨q1, q2⟩ := bb i i0 (by omega)
      have jr1 := tw_jand_r p2
      have jr2' := tw_jand_r q2
      have x1 : f_ByteRow_compare_L11 36864 VB (N + 1) a la b lb (min la lb) i = (if j_and (VB (a + i)) 255 - j_and (VB (b + i)) 255 = 0 then f_ByteRow_compare_L11 36864 VB N a la b lb (min la lb) (i + 1) else some (j_and (VB (a + i)) 255 - j_and (VB (b + i)) 255)) := by
        conv => lhs; unfold f_ByteRow_compare_L11
        (first | refine tw_ite_t (by first | omega | (simp only [tw_gq]; omega)) ?_ | refine tw_ite_f (by first | omega | (simp only [tw_gq]; omega)) ?_); (first | refine tw_ite_t (by first | omega | (simp only [tw_gq]; omega)) ?_ | refine tw_ite_f (by first | omega | (simp only [tw_gq]; omega)) ?_)
        refine tw_bind_t (tw_bat (by omega) (by omega) (by omega)) ?_
        refine tw_bind_t (tw_bat (by omega) (by omega) (by omega)) ?_
        (first | refine tw_ite_t (by first | omega | (simp only [tw_gq]; omega)) ?_ | refine tw_ite_f (by first | omega | (simp only [tw_gq]; omega)) ?_)
        rfl
      have x2 : f_Mod_order_L2 fr le tx (N + 1) va vb i = (if j_and (VB (a + i)) 255 = j_and (VB (b + i)) 255 then f_Mod_order_L2 fr le tx N va vb (i + 1) else some (j_and (VB (a + i)) 255 - j_and (VB (b + i)) 255)) := by
        conv => lhs; unfold f_Mod_order_L2
        rw [ela, elb]
        (first | refine tw_ite_t (by first | omega | (simp only [tw_gq]; omega)) ?_ | refine tw_ite_f (by first | omega | (simp only [tw_gq]; omega)) ?_); (first | refine tw_ite_t (by first | omega | (simp only [tw_gq]; omega)) ?_ | refine tw_ite_f (by first | omega | (simp only [tw_gq]; omega)) ?_); (first | refine tw_ite_t (by first | omega | (simp only [tw_gq]; omega)) ?_ | refine tw_ite_f (by first | omega | (simp only [tw_gq]; omega)) ?_); (first | refine tw_ite_t (by first | omega | (simp only [tw_gq]; omega)) ?_ | refine tw_ite_f (by first | omega | (simp only [tw_gq]; omega)) ?_); (first | refine tw_ite_t (by first | omega | (simp only [tw_gq]; omega)) ?_ | refine tw_ite_f (by first | omega | (simp only [tw_gq]; omega)) ?_); (first | refine tw_ite_t (by first | omega | (simp only [tw_gq]; omega)) ?_ | refine tw_ite_f (by first | omega | (simp only [tw_gq]; omega)) ?_)
        refine tw_bind_t (tw_rByt hva.1 hva.2 (by omega) (by omega)) ?_
        refine tw_bind_t (tw_rByt hvb.1 hvb.2 (by omega) (by omega)) ?_
        rw [← p1, ← q1]
        (first | refine tw_ite_t (by first | omega | (simp only [tw_gq]; omega)) ?_ | refine tw_ite_f (by first | omega | (simp only [tw_gq]; omega)) ?_)
        by_cases c : j_and (VB (a + i)) 255 = j_and (VB (b + i)) 255
        · rw [if_pos c, if_pos c]
        · rw [if_neg c, if_neg c]
          refine tw_bind_t (tw_rByt hva.1 hva.2 (by omega) (by omega)) ?_
          refine tw_bind_t (tw_rByt hvb.1 hvb.2 (by omega) (by omega)) ?_
          rw [← p1, ← q1]
      rw [x1, x2]
      by_cases c : j_and (VB (a + i)) 255 = j_and (VB (b + i)) 255
      · rw [if_pos (by omega), if_pos c]
        exact ih (i + 1) (by omega) (by omega) (by omega)
      · rw [if_neg (by omega), if_neg c]
        exact ⟨_, rfl, rfl, by omega, by omega⟩
set_option maxRecDepth 100000 in
theorem tw_same_B {a b n d1 d2 x1 x2 x4 : Int} {VB tx fm cn at' : Int → Int} (a0 : 0 ≤ a ∧ a + n ≤ 36864) (b0 : 0 ≤ b ∧ b + n ≤ 36864) (n0 : 0 ≤ n ∧ n ≤ 64) (h1 : 0 ≤ d1 ∧ d1 < 5000) (h2 : 0 ≤ d2 ∧ d2 < 5000) (ef : fm d1 = 4) (ec : cn d1 = n) (fa : 0 ≤ at' d1 ∧ at' d1 + n ≤ 70000) (fb : 0 ≤ at' d2 ∧ at' d2 + n ≤ 70000)
    (ba : ∀ k, 0 ≤ k → k < n → VB (a + k) = tx (at' d1 + k) ∧ tw_by8 (VB (a + k))) (bb : ∀ k, 0 ≤ k → k < n → VB (b + k) = tx (at' d2 + k) ∧ tw_by8 (VB (b + k))) : ∀ (N : Nat) (i : Int), 0 ≤ i → i ≤ n → (n - i).toNat + 1 < N →
    ∃ c r x7, f_ByteRow_compare_L11 36864 VB N a n b n (min n n) i = some c ∧ f_Mod_sameData_L122 tx fm cn at' x1 x2 x4 d1 d2 N 1 i = some (r, x7) ∧ -1000 ≤ c ∧ c ≤ 1000 ∧ ((c = 0 ∧ r = 1) ∨ (¬ c = 0 ∧ r = 0)) := by
  intro N
  induction N with
  | zero => intro i i0 i1 hN; omega
  | succ N ih =>
    intro i i0 i1 hN
    by_cases e : i = n
    · refine ⟨n - n, 1, i, ?_, ?_, by omega, by omega, Or.inl ⟨by omega, rfl⟩⟩
      · unfold f_ByteRow_compare_L11; (first | refine tw_ite_t (by first | omega | (simp only [tw_gq]; omega)) ?_ | refine tw_ite_f (by first | omega | (simp only [tw_gq]; omega)) ?_); (first | refine tw_ite_t (by first | omega | (simp only [tw_gq]; omega)) ?_ | refine tw_ite_f (by first | omega | (simp only [tw_gq]; omega)) ?_); rfl
      · unfold f_Mod_sameData_L122; (first | refine tw_ite_t (by first | omega | (simp only [tw_gq]; omega)) ?_ | refine tw_ite_f (by first | omega | (simp only [tw_gq]; omega)) ?_); (first | refine tw_ite_t (by first | omega | (simp only [tw_gq]; omega)) ?_ | refine tw_ite_f (by first | omega | (simp only [tw_gq]; omega)) ?_); (first | refine tw_ite_t (by first | omega | (simp only [tw_gq]; omega)) ?_ | refine tw_ite_f (by first | omega | (simp only [tw_gq]; omega)) ?_); (first | refine tw_ite_t (by first | omega | (simp only [tw_gq]; omega)) ?_ | refine tw_ite_f (by first | omega | (simp only [tw_gq]; omega)) ?_); (first | refine tw_ite_t (by first | omega | (simp only [tw_gq]; omega)) ?_ | refine tw_ite_f (by first | omega | (simp only [tw_gq]; omega)) ?_); (first | refine tw_ite_t (by first | omega | (simp only [tw_gq]; omega)) ?_ | refine tw_ite_f (by first | omega | (simp only [tw_gq]; omega)) ?_); (first | refine tw_ite_t (by first | omega | (simp only [tw_gq]; omega)) ?_ | refine tw_ite_f (by first | omega | (simp only [tw_gq]; omega)) ?_); (first | refine tw_ite_t (by first | omega | (simp only [tw_gq]; omega)) ?_ | refine tw_ite_f (by first | omega | (simp only [tw_gq]; omega)) ?_); rfl
    · obtain ⟨p1, p2⟩ := ba i i0 (by omega)
      obtain ⟨q1, q2⟩ := bb i i0 (by omega)
      have jr1 := tw_jand_r p2
      have jr2' := tw_jand_r q2
      have ji := tw_jand_inj p2 q2
      have p3 : -128 ≤ VB (a + i) ∧ VB (a + i) ≤ 127 := p2
      have q3 : -128 ≤ VB (b + i) ∧ VB (b + i) ≤ 127 := q2
      have x1' : f_ByteRow_compare_L11 36864 VB (N + 1) a n b n (min n n) i = (if j_and (VB (a + i)) 255 - j_and (VB (b + i)) 255 = 0 then f_ByteRow_compare_L11 36864 VB N a n b n (min n n) (i + 1) else some (j_and (VB (a + i)) 255 - j_and (VB (b + i)) 255)) := by
        conv => lhs; unfold f_ByteRow_compare_L11
        (first | refine tw_ite_t (by first | omega | (simp only [tw_gq]; omega)) ?_ | refine tw_ite_f (by first | omega | (simp only [tw_gq]; omega)) ?_); (first | refine tw_ite_t (by first | omega | (simp only [tw_gq]; omega)) ?_ | refine tw_ite_f (by first | omega | (simp only [tw_gq]; omega)) ?_)
        refine tw_bind_t (tw_bat (by omega) (by omega) (by omega)) ?_
        refine tw_bind_t (tw_bat (by omega) (by omega) (by omega)) ?_
        (first | refine tw_ite_t (by first | omega | (simp only [tw_gq]; omega)) ?_ | refine tw_ite_f (by first | omega | (simp only [tw_gq]; omega)) ?_)
        rfl
      have x2' : f_Mod_sameData_L122 tx fm cn at' x1 x2 x4 d1 d2 (N + 1) 1 i = (if VB (a + i) = VB (b + i) then f_Mod_sameData_L122 tx fm cn at' x1 x2 x4 d1 d2 N 1 (i + 1) else f_Mod_sameData_L122 tx fm cn at' x1 x2 x4 d1 d2 N 0 (i + 1)) := by
        conv => lhs; unfold f_Mod_sameData_L122
        rw [← p1, ← q1]
        (first | refine tw_ite_t (by first | omega | (simp only [tw_gq]; omega)) ?_ | refine tw_ite_f (by first | omega | (simp only [tw_gq]; omega)) ?_); (first | refine tw_ite_t (by first | omega | (simp only [tw_gq]; omega)) ?_ | refine tw_ite_f (by first | omega | (simp only [tw_gq]; omega)) ?_); (first | refine tw_ite_t (by first | omega | (simp only [tw_gq]; omega)) ?_ | refine tw_ite_f (by first | omega | (simp only [tw_gq]; omega)) ?_); (first | refine tw_ite_t (by first | omega | (simp only [tw_gq]; omega)) ?_ | refine tw_ite_f (by first | omega | (simp only [tw_gq]; omega)) ?_); (first | refine tw_ite_t (by first | omega | (simp only [tw_gq]; omega)) ?_ | refine tw_ite_f (by first | omega | (simp only [tw_gq]; omega)) ?_); (first | refine tw_ite_t (by first | omega | (simp only [tw_gq]; omega)) ?_ | refine tw_ite_f (by first | omega | (simp only [tw_gq]; omega)) ?_); (first | refine tw_ite_t (by first | omega | (simp only [tw_gq]; omega)) ?_ | refine tw_ite_f (by first | omega | (simp only [tw_gq]; omega)) ?_); (first | refine tw_ite_t (by first | omega | (simp only [tw_gq]; omega)) ?_ | refine tw_ite_f (by first | omega | (simp only [tw_gq]; omega)) ?_); (first | refine tw_ite_t (by first | omega | (simp only [tw_gq]; omega)) ?_ | refine tw_ite_f (by first | omega | (simp only [tw_gq]; omega)) ?_); (first | refine tw_ite_t (by first | omega | (simp only [tw_gq]; omega)) ?_ | refine tw_ite_f (by first | omega | (simp only [tw_gq]; omega)) ?_); (first | refine tw_ite_t (by first | omega | (simp only [tw_gq]; omega)) ?_ | refine tw_ite_f (by first | omega | (simp only [tw_gq]; omega)) ?_); (first | refine tw_ite_t (by first | omega | (simp only [tw_gq]; omega)) ?_ | refine tw_ite_f (by first | omega | (simp only [tw_gq]; omega)) ?_); (first | refine tw_ite_t (by first | omega | (simp only [tw_gq]; omega)) ?_ | refine tw_ite_f (by first | omega | (simp only [tw_gq]; omega)) ?_)
        rfl
      rw [x1', x2']
      by_cases c : VB (a + i) = VB (b + i)
      · rw [if_pos (by rw [c]; omega), if_pos c]
        exact ih (i + 1) (by omega) (by omega) (by omega)
      · rw [if_neg (fun z => c (ji.1 (by omega))), if_neg c]
        refine ⟨_, 0, i + 1, rfl, ?_, by omega, by omega, Or.inr ⟨fun z => c (ji.1 (by omega)), rfl⟩⟩
        cases N with
        | zero => omega
        | succ N => unfold f_Mod_sameData_L122; (first | refine tw_ite_t (by first | omega | (simp only [tw_gq]; omega)) ?_ | refine tw_ite_f (by first | omega | (simp only [tw_gq]; omega)) ?_); (first | refine tw_ite_t (by first | omega | (simp only [tw_gq]; omega)) ?_ | refine tw_ite_f (by first | omega | (simp only [tw_gq]; omega)) ?_); rfl
set_option maxRecDepth 100000 in
theorem tw_same_0 {x1 x2 x4 d1 d2 : Int} {tx fm cn at' : Int → Int} {N : Nat} (hN : 1 ≤ N) : f_Mod_sameData_L122 tx fm cn at' x1 x2 x4 d1 d2 N 0 0 = some (0, 0) := by
  cases N with
  | zero => omega
  | succ N => unfold f_Mod_sameData_L122; (first | refine tw_ite_t (by first | omega | (simp only [tw_gq]; omega)) ?_ | refine tw_ite_f (by first | omega | (simp only [tw_gq]; omega)) ?_); (first | refine tw_ite_t (by first | omega | (simp only [tw_gq]; omega)) ?_ | refine tw_ite_f (by first | omega | (simp only [tw_gq]; omega)) ?_); rfl
set_option maxRecDepth 100000 in
theorem tw_same_N {VB_top : Int} {VB_row : Int → Int} {R_textEnd : Int} {R_texts : Int → Int} {D_forms : Int → Int} {D_counts : Int → Int} {D_numbers : Int → Int} {R_forms : Int → Int} {R_tags : Int → Int} {R_counts : Int → Int} {R_textsAt : Int → Int} {D_top R_from R_length x1 x2 i q1 q2 : _} {N n : Nat} (hN : 100 ≤ N) (q10 : 0 ≤ q1 ∧ q1 < D_top) (q20 : 0 ≤ q2 ∧ q2 < D_top) (hD : D_top ≤ 3201) (hV : VB_top ≤ 36864) (hT : R_textEnd ≤ 70000) (h1 : tw_NR VB_top VB_row R_textEnd R_texts D_forms D_counts D_numbers R_forms R_tags R_counts R_textsAt q1 (R_from x1 + i)) (h2 : tw_NR VB_top VB_row R_textEnd R_texts D_forms D_counts D_numbers R_forms R_tags R_counts R_textsAt q2 (R_from x2 + i))
    (f1 : 0 ≤ D_forms q1 ∧ D_forms q1 ≤ 4) (f2 : 0 ≤ D_forms q2 ∧ D_forms q2 ≤ 4) (c1 : 0 ≤ D_counts q1 ∧ D_counts q1 ≤ 200) (c2 : 0 ≤ D_counts q2 ∧ D_counts q2 ≤ 200) (d1 : 0 ≤ R_from x1 + i ∧ R_from x1 + i < 5000) (d2 : 0 ≤ R_from x2 + i ∧ R_from x2 + i < 5000) (hx1 : 0 ≤ x1 ∧ x1 < 3700) (hx2 : 0 ≤ x2 ∧ x2 < 3700) (hi : 0 ≤ i ∧ i < R_length x1) (hl : R_length x1 ≤ 200) :
    ∃ r, (r = 0 ∨ r = 1) ∧ f_Builtins_sameNode N VB_row D_top D_forms D_counts D_numbers q1 q2 = some r ∧ f_Mod_sameData_L24 N R_from R_length R_texts R_forms R_tags R_counts R_textsAt x1 x2 (n + 1) 1 i = f_Mod_sameData_L24 N R_from R_length R_texts R_forms R_tags R_counts R_textsAt x1 x2 n r (i + 1) := by
  obtain ⟨a1, a2, a3, a4, a5, a6⟩ := h1
  obtain ⟨b1, b2, b3, b4, b5, b6⟩ := h2
  clear a4 b4
  by_cases ef : D_forms q1 = D_forms q2
  · by_cases ec : D_counts q1 = D_counts q2
    · by_cases e4 : D_forms q1 = 4
      · obtain ⟨t1, tw_g1⟩ := a5 e4
        obtain ⟨t2, tw_g2⟩ := b5 (by omega)
        clear a5 a6 b5 b6
        obtain ⟨g11, g12, g13, g14, g15, g16, g17⟩ := tw_g1
        obtain ⟨g21, g22, g23, g24, g25, g26, g27⟩ := tw_g2
        obtain ⟨c, r, x7, s1, s2, s3, s4, s5⟩ := tw_same_B (a := D_numbers q1) (b := D_numbers q2) (n := D_counts q1) (d1 := R_from x1 + i) (d2 := R_from x2 + i) (x1 := x1) (x2 := x2) (x4 := i) (VB := VB_row) (tx := R_texts) (fm := R_forms) (cn := R_counts) (at' := R_textsAt) (by omega) (by omega) (by omega) d1 d2 (by omega) (by omega) (by omega) (by omega) (fun k k0 k1 => g17 k k0 k1) (fun k k0 k1 => g27 k k0 (by omega)) N 0 (by omega) (by omega) (by omega)
        refine ⟨r, by omega, ?_, ?_⟩
        · unfold f_Builtins_sameNode
          refine tw_bind_t (tw_dC_in q10.1 q10.2 hD) ?_
          refine tw_bind_t (tw_dF_in q10.1 q10.2 hD) ?_
          refine tw_bind_t (tw_dF_in q20.1 q20.2 hD) ?_
          (first | refine tw_ite_t (by first | omega | (simp only [tw_gq]; omega)) ?_ | refine tw_ite_f (by first | omega | (simp only [tw_gq]; omega)) ?_); (first | refine tw_ite_t (by first | omega | (simp only [tw_gq]; omega)) ?_ | refine tw_ite_f (by first | omega | (simp only [tw_gq]; omega)) ?_)
          refine tw_bind_t (tw_dC_in q20.1 q20.2 hD) ?_
          (first | refine tw_ite_t (by first | omega | (simp only [tw_gq]; omega)) ?_ | refine tw_ite_f (by first | omega | (simp only [tw_gq]; omega)) ?_); (first | refine tw_ite_t (by first | omega | (simp only [tw_gq]; omega)) ?_ | refine tw_ite_f (by first | omega | (simp only [tw_gq]; omega)) ?_)
          refine tw_bind_t (tw_dF_in q10.1 q10.2 hD) ?_
          (first | refine tw_ite_t (by first | omega | (simp only [tw_gq]; omega)) ?_ | refine tw_ite_f (by first | omega | (simp only [tw_gq]; omega)) ?_); (first | refine tw_ite_t (by first | omega | (simp only [tw_gq]; omega)) ?_ | refine tw_ite_f (by first | omega | (simp only [tw_gq]; omega)) ?_)
          refine tw_bind_t (tw_dM_in q10.1 q10.2 hD) ?_
          refine tw_bind_t (tw_dM_in q20.1 q20.2 hD) ?_
          refine tw_bind_t (r := c) ?_ ?_
          · unfold f_ByteRow_compare; (first | refine tw_ite_t (by first | omega | (simp only [tw_gq]; omega)) ?_ | refine tw_ite_f (by first | omega | (simp only [tw_gq]; omega)) ?_); exact s1
          · (first | refine tw_ite_t (by first | omega | (simp only [tw_gq]; omega)) ?_ | refine tw_ite_f (by first | omega | (simp only [tw_gq]; omega)) ?_)
            rcases s5 with ⟨z1, z2⟩ | ⟨z1, z2⟩
            · rw [if_pos z1, z2]
            · rw [if_neg z1, z2]
        · conv => lhs; unfold f_Mod_sameData_L24
          (first | refine tw_ite_t (by first | omega | (simp only [tw_gq]; omega)) ?_ | refine tw_ite_f (by first | omega | (simp only [tw_gq]; omega)) ?_); (first | refine tw_ite_t (by first | omega | (simp only [tw_gq]; omega)) ?_ | refine tw_ite_f (by first | omega | (simp only [tw_gq]; omega)) ?_); (first | refine tw_ite_t (by first | omega | (simp only [tw_gq]; omega)) ?_ | refine tw_ite_f (by first | omega | (simp only [tw_gq]; omega)) ?_); (first | refine tw_ite_t (by first | omega | (simp only [tw_gq]; omega)) ?_ | refine tw_ite_f (by first | omega | (simp only [tw_gq]; omega)) ?_); (first | refine tw_ite_t (by first | omega | (simp only [tw_gq]; omega)) ?_ | refine tw_ite_f (by first | omega | (simp only [tw_gq]; omega)) ?_); (first | refine tw_ite_t (by first | omega | (simp only [tw_gq]; omega)) ?_ | refine tw_ite_f (by first | omega | (simp only [tw_gq]; omega)) ?_); (first | refine tw_ite_t (by first | omega | (simp only [tw_gq]; omega)) ?_ | refine tw_ite_f (by first | omega | (simp only [tw_gq]; omega)) ?_); (first | refine tw_ite_t (by first | omega | (simp only [tw_gq]; omega)) ?_ | refine tw_ite_f (by first | omega | (simp only [tw_gq]; omega)) ?_); (first | refine tw_ite_t (by first | omega | (simp only [tw_gq]; omega)) ?_ | refine tw_ite_f (by first | omega | (simp only [tw_gq]; omega)) ?_); (first | refine tw_ite_t (by first | omega | (simp only [tw_gq]; omega)) ?_ | refine tw_ite_f (by first | omega | (simp only [tw_gq]; omega)) ?_); (first | refine tw_ite_t (by first | omega | (simp only [tw_gq]; omega)) ?_ | refine tw_ite_f (by first | omega | (simp only [tw_gq]; omega)) ?_); (first | refine tw_ite_t (by first | omega | (simp only [tw_gq]; omega)) ?_ | refine tw_ite_f (by first | omega | (simp only [tw_gq]; omega)) ?_); (first | refine tw_ite_t (by first | omega | (simp only [tw_gq]; omega)) ?_ | refine tw_ite_f (by first | omega | (simp only [tw_gq]; omega)) ?_); (first | refine tw_ite_t (by first | omega | (simp only [tw_gq]; omega)) ?_ | refine tw_ite_f (by first | omega | (simp only [tw_gq]; omega)) ?_); (first | refine tw_ite_t (by first | omega | (simp only [tw_gq]; omega)) ?_ | refine tw_ite_f (by first | omega | (simp only [tw_gq]; omega)) ?_); (first | refine tw_ite_t (by first | omega | (simp only [tw_gq]; omega)) ?_ | refine tw_ite_f (by first | omega | (simp only [tw_gq]; omega)) ?_); (first | refine tw_ite_t (by first | omega | (simp only [tw_gq]; omega)) ?_ | refine tw_ite_f (by first | omega | (simp only [tw_gq]; omega)) ?_); (first | refine tw_ite_t (by first | omega | (simp only [tw_gq]; omega)) ?_ | refine tw_ite_f (by first | omega | (simp only [tw_gq]; omega)) ?_); (first | refine tw_ite_t (by first | omega | (simp only [tw_gq]; omega)) ?_ | refine tw_ite_f (by first | omega | (simp only [tw_gq]; omega)) ?_)
          exact tw_ob2_t s2 rfl
      · have t1 := a6 e4
        have t2 := b6 (by omega)
        clear a5 a6 b5 b6
        have hc : f_Builtins_sameNode N VB_row D_top D_forms D_counts D_numbers q1 q2 = (if D_numbers q1 = D_numbers q2 then some 1 else some 0) := by
          unfold f_Builtins_sameNode
          refine tw_bind_t (tw_dC_in q10.1 q10.2 hD) ?_
          refine tw_bind_t (tw_dF_in q10.1 q10.2 hD) ?_
          refine tw_bind_t (tw_dF_in q20.1 q20.2 hD) ?_
          (first | refine tw_ite_t (by first | omega | (simp only [tw_gq]; omega)) ?_ | refine tw_ite_f (by first | omega | (simp only [tw_gq]; omega)) ?_); (first | refine tw_ite_t (by first | omega | (simp only [tw_gq]; omega)) ?_ | refine tw_ite_f (by first | omega | (simp only [tw_gq]; omega)) ?_)
          refine tw_bind_t (tw_dC_in q20.1 q20.2 hD) ?_
          (first | refine tw_ite_t (by first | omega | (simp only [tw_gq]; omega)) ?_ | refine tw_ite_f (by first | omega | (simp only [tw_gq]; omega)) ?_); (first | refine tw_ite_t (by first | omega | (simp only [tw_gq]; omega)) ?_ | refine tw_ite_f (by first | omega | (simp only [tw_gq]; omega)) ?_)
          refine tw_bind_t (tw_dF_in q10.1 q10.2 hD) ?_
          (first | refine tw_ite_t (by first | omega | (simp only [tw_gq]; omega)) ?_ | refine tw_ite_f (by first | omega | (simp only [tw_gq]; omega)) ?_); (first | refine tw_ite_t (by first | omega | (simp only [tw_gq]; omega)) ?_ | refine tw_ite_f (by first | omega | (simp only [tw_gq]; omega)) ?_)
          refine tw_bind_t (tw_dM_in q10.1 q10.2 hD) ?_
          refine tw_bind_t (tw_dM_in q20.1 q20.2 hD) ?_
          (first | refine tw_ite_t (by first | omega | (simp only [tw_gq]; omega)) ?_ | refine tw_ite_f (by first | omega | (simp only [tw_gq]; omega)) ?_)
          rfl
        by_cases en : D_numbers q1 = D_numbers q2
        · refine ⟨1, Or.inr rfl, by rw [hc, if_pos en], ?_⟩
          conv => lhs; unfold f_Mod_sameData_L24
          (first | refine tw_ite_t (by first | omega | (simp only [tw_gq]; omega)) ?_ | refine tw_ite_f (by first | omega | (simp only [tw_gq]; omega)) ?_); (first | refine tw_ite_t (by first | omega | (simp only [tw_gq]; omega)) ?_ | refine tw_ite_f (by first | omega | (simp only [tw_gq]; omega)) ?_); (first | refine tw_ite_t (by first | omega | (simp only [tw_gq]; omega)) ?_ | refine tw_ite_f (by first | omega | (simp only [tw_gq]; omega)) ?_); (first | refine tw_ite_t (by first | omega | (simp only [tw_gq]; omega)) ?_ | refine tw_ite_f (by first | omega | (simp only [tw_gq]; omega)) ?_); (first | refine tw_ite_t (by first | omega | (simp only [tw_gq]; omega)) ?_ | refine tw_ite_f (by first | omega | (simp only [tw_gq]; omega)) ?_); (first | refine tw_ite_t (by first | omega | (simp only [tw_gq]; omega)) ?_ | refine tw_ite_f (by first | omega | (simp only [tw_gq]; omega)) ?_); (first | refine tw_ite_t (by first | omega | (simp only [tw_gq]; omega)) ?_ | refine tw_ite_f (by first | omega | (simp only [tw_gq]; omega)) ?_); (first | refine tw_ite_t (by first | omega | (simp only [tw_gq]; omega)) ?_ | refine tw_ite_f (by first | omega | (simp only [tw_gq]; omega)) ?_); (first | refine tw_ite_t (by first | omega | (simp only [tw_gq]; omega)) ?_ | refine tw_ite_f (by first | omega | (simp only [tw_gq]; omega)) ?_); (first | refine tw_ite_t (by first | omega | (simp only [tw_gq]; omega)) ?_ | refine tw_ite_f (by first | omega | (simp only [tw_gq]; omega)) ?_); (first | refine tw_ite_t (by first | omega | (simp only [tw_gq]; omega)) ?_ | refine tw_ite_f (by first | omega | (simp only [tw_gq]; omega)) ?_); (first | refine tw_ite_t (by first | omega | (simp only [tw_gq]; omega)) ?_ | refine tw_ite_f (by first | omega | (simp only [tw_gq]; omega)) ?_); (first | refine tw_ite_t (by first | omega | (simp only [tw_gq]; omega)) ?_ | refine tw_ite_f (by first | omega | (simp only [tw_gq]; omega)) ?_); (first | refine tw_ite_t (by first | omega | (simp only [tw_gq]; omega)) ?_ | refine tw_ite_f (by first | omega | (simp only [tw_gq]; omega)) ?_); (first | refine tw_ite_t (by first | omega | (simp only [tw_gq]; omega)) ?_ | refine tw_ite_f (by first | omega | (simp only [tw_gq]; omega)) ?_); (first | refine tw_ite_t (by first | omega | (simp only [tw_gq]; omega)) ?_ | refine tw_ite_f (by first | omega | (simp only [tw_gq]; omega)) ?_); (first | refine tw_ite_t (by first | omega | (simp only [tw_gq]; omega)) ?_ | refine tw_ite_f (by first | omega | (simp only [tw_gq]; omega)) ?_); (first | refine tw_ite_t (by first | omega | (simp only [tw_gq]; omega)) ?_ | refine tw_ite_f (by first | omega | (simp only [tw_gq]; omega)) ?_); (first | refine tw_ite_t (by first | omega | (simp only [tw_gq]; omega)) ?_ | refine tw_ite_f (by first | omega | (simp only [tw_gq]; omega)) ?_)
          refine tw_ob2_t (a1 := 1) (a2 := 0) ?_ rfl
          cases N with
          | zero => omega
          | succ N => unfold f_Mod_sameData_L122; (first | refine tw_ite_t (by first | omega | (simp only [tw_gq]; omega)) ?_ | refine tw_ite_f (by first | omega | (simp only [tw_gq]; omega)) ?_); (first | refine tw_ite_t (by first | omega | (simp only [tw_gq]; omega)) ?_ | refine tw_ite_f (by first | omega | (simp only [tw_gq]; omega)) ?_); (first | refine tw_ite_t (by first | omega | (simp only [tw_gq]; omega)) ?_ | refine tw_ite_f (by first | omega | (simp only [tw_gq]; omega)) ?_); (first | refine tw_ite_t (by first | omega | (simp only [tw_gq]; omega)) ?_ | refine tw_ite_f (by first | omega | (simp only [tw_gq]; omega)) ?_); (first | refine tw_ite_t (by first | omega | (simp only [tw_gq]; omega)) ?_ | refine tw_ite_f (by first | omega | (simp only [tw_gq]; omega)) ?_); rfl
        · refine ⟨0, Or.inl rfl, by rw [hc, if_neg en], ?_⟩
          conv => lhs; unfold f_Mod_sameData_L24
          (first | refine tw_ite_t (by first | omega | (simp only [tw_gq]; omega)) ?_ | refine tw_ite_f (by first | omega | (simp only [tw_gq]; omega)) ?_); (first | refine tw_ite_t (by first | omega | (simp only [tw_gq]; omega)) ?_ | refine tw_ite_f (by first | omega | (simp only [tw_gq]; omega)) ?_); (first | refine tw_ite_t (by first | omega | (simp only [tw_gq]; omega)) ?_ | refine tw_ite_f (by first | omega | (simp only [tw_gq]; omega)) ?_); (first | refine tw_ite_t (by first | omega | (simp only [tw_gq]; omega)) ?_ | refine tw_ite_f (by first | omega | (simp only [tw_gq]; omega)) ?_); (first | refine tw_ite_t (by first | omega | (simp only [tw_gq]; omega)) ?_ | refine tw_ite_f (by first | omega | (simp only [tw_gq]; omega)) ?_); (first | refine tw_ite_t (by first | omega | (simp only [tw_gq]; omega)) ?_ | refine tw_ite_f (by first | omega | (simp only [tw_gq]; omega)) ?_); (first | refine tw_ite_t (by first | omega | (simp only [tw_gq]; omega)) ?_ | refine tw_ite_f (by first | omega | (simp only [tw_gq]; omega)) ?_); (first | refine tw_ite_t (by first | omega | (simp only [tw_gq]; omega)) ?_ | refine tw_ite_f (by first | omega | (simp only [tw_gq]; omega)) ?_); (first | refine tw_ite_t (by first | omega | (simp only [tw_gq]; omega)) ?_ | refine tw_ite_f (by first | omega | (simp only [tw_gq]; omega)) ?_); (first | refine tw_ite_t (by first | omega | (simp only [tw_gq]; omega)) ?_ | refine tw_ite_f (by first | omega | (simp only [tw_gq]; omega)) ?_); (first | refine tw_ite_t (by first | omega | (simp only [tw_gq]; omega)) ?_ | refine tw_ite_f (by first | omega | (simp only [tw_gq]; omega)) ?_); (first | refine tw_ite_t (by first | omega | (simp only [tw_gq]; omega)) ?_ | refine tw_ite_f (by first | omega | (simp only [tw_gq]; omega)) ?_); (first | refine tw_ite_t (by first | omega | (simp only [tw_gq]; omega)) ?_ | refine tw_ite_f (by first | omega | (simp only [tw_gq]; omega)) ?_); (first | refine tw_ite_t (by first | omega | (simp only [tw_gq]; omega)) ?_ | refine tw_ite_f (by first | omega | (simp only [tw_gq]; omega)) ?_); (first | refine tw_ite_t (by first | omega | (simp only [tw_gq]; omega)) ?_ | refine tw_ite_f (by first | omega | (simp only [tw_gq]; omega)) ?_)
          exact tw_ob2_t (tw_same_0 (by omega)) rfl
    · have rt1 : -9223372036854775808 ≤ R_tags (R_from x1 + i) ∧ R_tags (R_from x1 + i) ≤ 9223372036854775807 := by
        by_cases e4 : D_forms q1 = 4
        · have := (a5 e4).1; omega
        · have := a6 e4; omega
      have rt2 : -9223372036854775808 ≤ R_tags (R_from x2 + i) ∧ R_tags (R_from x2 + i) ≤ 9223372036854775807 := by
        by_cases e4 : D_forms q2 = 4
        · have := (b5 e4).1; omega
        · have := b6 e4; omega
      clear a5 b5 a6 b6
      refine ⟨0, Or.inl rfl, ?_, ?_⟩
      · unfold f_Builtins_sameNode
        refine tw_bind_t (tw_dC_in q10.1 q10.2 hD) ?_
        refine tw_bind_t (tw_dF_in q10.1 q10.2 hD) ?_
        refine tw_bind_t (tw_dF_in q20.1 q20.2 hD) ?_
        (first | refine tw_ite_t (by first | omega | (simp only [tw_gq]; omega)) ?_ | refine tw_ite_f (by first | omega | (simp only [tw_gq]; omega)) ?_); (first | refine tw_ite_t (by first | omega | (simp only [tw_gq]; omega)) ?_ | refine tw_ite_f (by first | omega | (simp only [tw_gq]; omega)) ?_)
        refine tw_bind_t (tw_dC_in q20.1 q20.2 hD) ?_
        (first | refine tw_ite_t (by first | omega | (simp only [tw_gq]; omega)) ?_ | refine tw_ite_f (by first | omega | (simp only [tw_gq]; omega)) ?_); (first | refine tw_ite_t (by first | omega | (simp only [tw_gq]; omega)) ?_ | refine tw_ite_f (by first | omega | (simp only [tw_gq]; omega)) ?_)
        rfl
      · conv => lhs; unfold f_Mod_sameData_L24
        by_cases et : R_tags (R_from x1 + i) = R_tags (R_from x2 + i)
        · (first | refine tw_ite_t (by first | omega | (simp only [tw_gq]; omega)) ?_ | refine tw_ite_f (by first | omega | (simp only [tw_gq]; omega)) ?_); (first | refine tw_ite_t (by first | omega | (simp only [tw_gq]; omega)) ?_ | refine tw_ite_f (by first | omega | (simp only [tw_gq]; omega)) ?_); (first | refine tw_ite_t (by first | omega | (simp only [tw_gq]; omega)) ?_ | refine tw_ite_f (by first | omega | (simp only [tw_gq]; omega)) ?_); (first | refine tw_ite_t (by first | omega | (simp only [tw_gq]; omega)) ?_ | refine tw_ite_f (by first | omega | (simp only [tw_gq]; omega)) ?_); (first | refine tw_ite_t (by first | omega | (simp only [tw_gq]; omega)) ?_ | refine tw_ite_f (by first | omega | (simp only [tw_gq]; omega)) ?_); (first | refine tw_ite_t (by first | omega | (simp only [tw_gq]; omega)) ?_ | refine tw_ite_f (by first | omega | (simp only [tw_gq]; omega)) ?_); (first | refine tw_ite_t (by first | omega | (simp only [tw_gq]; omega)) ?_ | refine tw_ite_f (by first | omega | (simp only [tw_gq]; omega)) ?_); (first | refine tw_ite_t (by first | omega | (simp only [tw_gq]; omega)) ?_ | refine tw_ite_f (by first | omega | (simp only [tw_gq]; omega)) ?_); (first | refine tw_ite_t (by first | omega | (simp only [tw_gq]; omega)) ?_ | refine tw_ite_f (by first | omega | (simp only [tw_gq]; omega)) ?_); (first | refine tw_ite_t (by first | omega | (simp only [tw_gq]; omega)) ?_ | refine tw_ite_f (by first | omega | (simp only [tw_gq]; omega)) ?_); (first | refine tw_ite_t (by first | omega | (simp only [tw_gq]; omega)) ?_ | refine tw_ite_f (by first | omega | (simp only [tw_gq]; omega)) ?_); (first | refine tw_ite_t (by first | omega | (simp only [tw_gq]; omega)) ?_ | refine tw_ite_f (by first | omega | (simp only [tw_gq]; omega)) ?_); (first | refine tw_ite_t (by first | omega | (simp only [tw_gq]; omega)) ?_ | refine tw_ite_f (by first | omega | (simp only [tw_gq]; omega)) ?_); (first | refine tw_ite_t (by first | omega | (simp only [tw_gq]; omega)) ?_ | refine tw_ite_f (by first | omega | (simp only [tw_gq]; omega)) ?_); (first | refine tw_ite_t (by first | omega | (simp only [tw_gq]; omega)) ?_ | refine tw_ite_f (by first | omega | (simp only [tw_gq]; omega)) ?_); (first | refine tw_ite_t (by first | omega | (simp only [tw_gq]; omega)) ?_ | refine tw_ite_f (by first | omega | (simp only [tw_gq]; omega)) ?_); (first | refine tw_ite_t (by first | omega | (simp only [tw_gq]; omega)) ?_ | refine tw_ite_f (by first | omega | (simp only [tw_gq]; omega)) ?_); (first | refine tw_ite_t (by first | omega | (simp only [tw_gq]; omega)) ?_ | refine tw_ite_f (by first | omega | (simp only [tw_gq]; omega)) ?_); (first | refine tw_ite_t (by first | omega | (simp only [tw_gq]; omega)) ?_ | refine tw_ite_f (by first | omega | (simp only [tw_gq]; omega)) ?_)
          exact tw_ob2_t (tw_same_0 (by omega)) rfl
        · (first | refine tw_ite_t (by first | omega | (simp only [tw_gq]; omega)) ?_ | refine tw_ite_f (by first | omega | (simp only [tw_gq]; omega)) ?_); (first | refine tw_ite_t (by first | omega | (simp only [tw_gq]; omega)) ?_ | refine tw_ite_f (by first | omega | (simp only [tw_gq]; omega)) ?_); (first | refine tw_ite_t (by first | omega | (simp only [tw_gq]; omega)) ?_ | refine tw_ite_f (by first | omega | (simp only [tw_gq]; omega)) ?_); (first | refine tw_ite_t (by first | omega | (simp only [tw_gq]; omega)) ?_ | refine tw_ite_f (by first | omega | (simp only [tw_gq]; omega)) ?_); (first | refine tw_ite_t (by first | omega | (simp only [tw_gq]; omega)) ?_ | refine tw_ite_f (by first | omega | (simp only [tw_gq]; omega)) ?_); (first | refine tw_ite_t (by first | omega | (simp only [tw_gq]; omega)) ?_ | refine tw_ite_f (by first | omega | (simp only [tw_gq]; omega)) ?_); (first | refine tw_ite_t (by first | omega | (simp only [tw_gq]; omega)) ?_ | refine tw_ite_f (by first | omega | (simp only [tw_gq]; omega)) ?_); (first | refine tw_ite_t (by first | omega | (simp only [tw_gq]; omega)) ?_ | refine tw_ite_f (by first | omega | (simp only [tw_gq]; omega)) ?_); (first | refine tw_ite_t (by first | omega | (simp only [tw_gq]; omega)) ?_ | refine tw_ite_f (by first | omega | (simp only [tw_gq]; omega)) ?_); (first | refine tw_ite_t (by first | omega | (simp only [tw_gq]; omega)) ?_ | refine tw_ite_f (by first | omega | (simp only [tw_gq]; omega)) ?_); (first | refine tw_ite_t (by first | omega | (simp only [tw_gq]; omega)) ?_ | refine tw_ite_f (by first | omega | (simp only [tw_gq]; omega)) ?_); (first | refine tw_ite_t (by first | omega | (simp only [tw_gq]; omega)) ?_ | refine tw_ite_f (by first | omega | (simp only [tw_gq]; omega)) ?_); (first | refine tw_ite_t (by first | omega | (simp only [tw_gq]; omega)) ?_ | refine tw_ite_f (by first | omega | (simp only [tw_gq]; omega)) ?_); (first | refine tw_ite_t (by first | omega | (simp only [tw_gq]; omega)) ?_ | refine tw_ite_f (by first | omega | (simp only [tw_gq]; omega)) ?_); (first | refine tw_ite_t (by first | omega | (simp only [tw_gq]; omega)) ?_ | refine tw_ite_f (by first | omega | (simp only [tw_gq]; omega)) ?_)
          exact tw_ob2_t (tw_same_0 (by omega)) rfl
  · refine ⟨0, Or.inl rfl, ?_, ?_⟩
    · clear a5 b5 a6 b6
      unfold f_Builtins_sameNode
      refine tw_bind_t (tw_dC_in q10.1 q10.2 hD) ?_
      refine tw_bind_t (tw_dF_in q10.1 q10.2 hD) ?_
      refine tw_bind_t (tw_dF_in q20.1 q20.2 hD) ?_
      (first | refine tw_ite_t (by first | omega | (simp only [tw_gq]; omega)) ?_ | refine tw_ite_f (by first | omega | (simp only [tw_gq]; omega)) ?_); (first | refine tw_ite_t (by first | omega | (simp only [tw_gq]; omega)) ?_ | refine tw_ite_f (by first | omega | (simp only [tw_gq]; omega)) ?_)
      rfl
    · clear a5 b5 a6 b6
      conv => lhs; unfold f_Mod_sameData_L24
      (first | refine tw_ite_t (by first | omega | (simp only [tw_gq]; omega)) ?_ | refine tw_ite_f (by first | omega | (simp only [tw_gq]; omega)) ?_); (first | refine tw_ite_t (by first | omega | (simp only [tw_gq]; omega)) ?_ | refine tw_ite_f (by first | omega | (simp only [tw_gq]; omega)) ?_); (first | refine tw_ite_t (by first | omega | (simp only [tw_gq]; omega)) ?_ | refine tw_ite_f (by first | omega | (simp only [tw_gq]; omega)) ?_); (first | refine tw_ite_t (by first | omega | (simp only [tw_gq]; omega)) ?_ | refine tw_ite_f (by first | omega | (simp only [tw_gq]; omega)) ?_); (first | refine tw_ite_t (by first | omega | (simp only [tw_gq]; omega)) ?_ | refine tw_ite_f (by first | omega | (simp only [tw_gq]; omega)) ?_); (first | refine tw_ite_t (by first | omega | (simp only [tw_gq]; omega)) ?_ | refine tw_ite_f (by first | omega | (simp only [tw_gq]; omega)) ?_); (first | refine tw_ite_t (by first | omega | (simp only [tw_gq]; omega)) ?_ | refine tw_ite_f (by first | omega | (simp only [tw_gq]; omega)) ?_); (first | refine tw_ite_t (by first | omega | (simp only [tw_gq]; omega)) ?_ | refine tw_ite_f (by first | omega | (simp only [tw_gq]; omega)) ?_); (first | refine tw_ite_t (by first | omega | (simp only [tw_gq]; omega)) ?_ | refine tw_ite_f (by first | omega | (simp only [tw_gq]; omega)) ?_); (first | refine tw_ite_t (by first | omega | (simp only [tw_gq]; omega)) ?_ | refine tw_ite_f (by first | omega | (simp only [tw_gq]; omega)) ?_); (first | refine tw_ite_t (by first | omega | (simp only [tw_gq]; omega)) ?_ | refine tw_ite_f (by first | omega | (simp only [tw_gq]; omega)) ?_)
      exact tw_ob2_t (tw_same_0 (by omega)) rfl
set_option maxRecDepth 100000 in
theorem tw_same_D {D_top : Int} {D_nodes : Int → Int} {R_dataEnd : Int} {VB_top : Int} {VB_row : Int → Int} {R_textEnd : Int} {R_texts : Int → Int} {D_forms : Int → Int} {D_counts : Int → Int} {D_numbers : Int → Int} {R_forms : Int → Int} {R_tags : Int → Int} {R_counts : Int → Int} {R_textsAt : Int → Int} {D_depths D_weights R_from R_length : Int → Int} {q1 q2 x1 x2 : Int} (hd : tw_DR 12 D_top D_forms D_counts D_nodes D_depths D_weights) {N : Nat} (hN : 300 ≤ N) (hD : D_top ≤ 3201) (hV : VB_top ≤ 36864) (hT : R_textEnd ≤ 70000) (hE : R_dataEnd ≤ 5000) (h1 : tw_DD D_top D_nodes R_dataEnd VB_top VB_row R_textEnd R_texts D_forms D_counts D_numbers R_forms R_tags R_counts R_textsAt q1 (R_from x1)) (h2 : tw_DD D_top D_nodes R_dataEnd VB_top VB_row R_textEnd R_texts D_forms D_counts D_numbers R_forms R_tags R_counts R_textsAt q2 (R_from x2)) (l1 : R_length x1 = D_nodes q1) (l2 : R_length x2 = D_nodes q2) (hx1 : 0 ≤ x1 ∧ x1 < 3700) (hx2 : 0 ≤ x2 ∧ x2 < 3700) :
    ∃ r, (r = 0 ∨ r = 1) ∧ f_Builtins_sameData N VB_row D_top D_forms D_counts D_numbers D_nodes q1 q2 = some r ∧ f_Mod_sameData N R_from R_length R_texts R_forms R_tags R_counts R_textsAt x1 x2 = some r := by
  obtain ⟨a1, a2, a3, a4, a5⟩ := h1
  obtain ⟨b1, b2, b3, b4, b5⟩ := h2
  obtain ⟨n1, n2, n3, -⟩ := hd q1 a1 a2
  obtain ⟨m1, m2, m3, -⟩ := hd q2 b1 b2
  by_cases e : D_nodes q1 = D_nodes q2
  · have key : ∀ (n : Nat) (i : Int), 0 ≤ i → i ≤ D_nodes q1 → (D_nodes q1 - i).toNat + 1 < n → ∃ r x4, (r = 0 ∨ r = 1) ∧ f_Builtins_sameData_L32 N VB_row D_top D_forms D_counts D_numbers D_nodes n q1 q2 (D_nodes q1) i = some r ∧ f_Mod_sameData_L24 N R_from R_length R_texts R_forms R_tags R_counts R_textsAt x1 x2 n 1 i = some (r, x4) := by
      intro n
      induction n with
      | zero => intro i i0 i1 hn; omega
      | succ n ih =>
        intro i i0 i1 hn
        by_cases ei : i = D_nodes q1
        · refine ⟨1, i, Or.inr rfl, ?_, ?_⟩
          · unfold f_Builtins_sameData_L32; (first | refine tw_ite_t (by first | omega | (simp only [tw_gq]; omega)) ?_ | refine tw_ite_f (by first | omega | (simp only [tw_gq]; omega)) ?_); (first | refine tw_ite_t (by first | omega | (simp only [tw_gq]; omega)) ?_ | refine tw_ite_f (by first | omega | (simp only [tw_gq]; omega)) ?_); rfl
          · unfold f_Mod_sameData_L24; (first | refine tw_ite_t (by first | omega | (simp only [tw_gq]; omega)) ?_ | refine tw_ite_f (by first | omega | (simp only [tw_gq]; omega)) ?_); (first | refine tw_ite_t (by first | omega | (simp only [tw_gq]; omega)) ?_ | refine tw_ite_f (by first | omega | (simp only [tw_gq]; omega)) ?_); (first | refine tw_ite_t (by first | omega | (simp only [tw_gq]; omega)) ?_ | refine tw_ite_f (by first | omega | (simp only [tw_gq]; omega)) ?_); (first | refine tw_ite_t (by first | omega | (simp only [tw_gq]; omega)) ?_ | refine tw_ite_f (by first | omega | (simp only [tw_gq]; omega)) ?_); (first | refine tw_ite_t (by first | omega | (simp only [tw_gq]; omega)) ?_ | refine tw_ite_f (by first | omega | (simp only [tw_gq]; omega)) ?_); rfl
        · obtain ⟨-, -, -, -, -, f1, f1', c1, c1', -⟩ := hd (q1 + i) (by omega) (by omega)
          obtain ⟨-, -, -, -, -, f2, f2', c2, c2', -⟩ := hd (q2 + i) (by omega) (by omega)
          obtain ⟨r, r0, r1, r2⟩ := tw_same_N (n := n) (N := N) (i := i) (D_top := D_top) (R_length := R_length) (by omega) (by omega) (by omega) hD hV hT (a5 i i0 (by omega)) (b5 i i0 (by omega)) ⟨f1, f1'⟩ ⟨f2, f2'⟩ ⟨c1, c1'⟩ ⟨c2, c2'⟩ (by omega) (by omega) hx1 hx2 (by omega) (by omega)
          have s1 : f_Builtins_sameData_L32 N VB_row D_top D_forms D_counts D_numbers D_nodes (n + 1) q1 q2 (D_nodes q1) i = (if r = 0 then some 0 else f_Builtins_sameData_L32 N VB_row D_top D_forms D_counts D_numbers D_nodes n q1 q2 (D_nodes q1) (i + 1)) := by
            conv => lhs; unfold f_Builtins_sameData_L32
            (first | refine tw_ite_t (by first | omega | (simp only [tw_gq]; omega)) ?_ | refine tw_ite_f (by first | omega | (simp only [tw_gq]; omega)) ?_); (first | refine tw_ite_t (by first | omega | (simp only [tw_gq]; omega)) ?_ | refine tw_ite_f (by first | omega | (simp only [tw_gq]; omega)) ?_)
            refine tw_bind_t r1 ?_
            (first | refine tw_ite_t (by first | omega | (simp only [tw_gq]; omega)) ?_ | refine tw_ite_f (by first | omega | (simp only [tw_gq]; omega)) ?_)
            rfl
          rw [s1, r2]
          rcases r0 with z | z
          · subst z
            refine ⟨0, i + 1, Or.inl rfl, by rw [if_pos rfl], ?_⟩
            cases n with
            | zero => omega
            | succ n => unfold f_Mod_sameData_L24; (first | refine tw_ite_t (by first | omega | (simp only [tw_gq]; omega)) ?_ | refine tw_ite_f (by first | omega | (simp only [tw_gq]; omega)) ?_); (first | refine tw_ite_t (by first | omega | (simp only [tw_gq]; omega)) ?_ | refine tw_ite_f (by first | omega | (simp only [tw_gq]; omega)) ?_); rfl
          · subst z
            rw [if_neg (by decide)]
            exact ih (i + 1) (by omega) (by omega) (by omega)
    obtain ⟨r, x4, r0, r1, r2⟩ := key N 0 (by omega) (by omega) (by omega)
    refine ⟨r, r0, ?_, ?_⟩
    · unfold f_Builtins_sameData
      refine tw_bind_t (tw_dN_in a1 a2 hD) ?_
      refine tw_bind_t (tw_dN_in b1 b2 hD) ?_
      (first | refine tw_ite_t (by first | omega | (simp only [tw_gq]; omega)) ?_ | refine tw_ite_f (by first | omega | (simp only [tw_gq]; omega)) ?_); (first | refine tw_ite_t (by first | omega | (simp only [tw_gq]; omega)) ?_ | refine tw_ite_f (by first | omega | (simp only [tw_gq]; omega)) ?_)
      exact r1
    · unfold f_Mod_sameData
      (first | refine tw_ite_t (by first | omega | (simp only [tw_gq]; omega)) ?_ | refine tw_ite_f (by first | omega | (simp only [tw_gq]; omega)) ?_); (first | refine tw_ite_t (by first | omega | (simp only [tw_gq]; omega)) ?_ | refine tw_ite_f (by first | omega | (simp only [tw_gq]; omega)) ?_); (first | refine tw_ite_t (by first | omega | (simp only [tw_gq]; omega)) ?_ | refine tw_ite_f (by first | omega | (simp only [tw_gq]; omega)) ?_); (first | refine tw_ite_t (by first | omega | (simp only [tw_gq]; omega)) ?_ | refine tw_ite_f (by first | omega | (simp only [tw_gq]; omega)) ?_)
      refine tw_ob2_t r2 ?_
      rw [if_pos r0]
  · refine ⟨0, Or.inl rfl, ?_, ?_⟩
    · unfold f_Builtins_sameData
      refine tw_bind_t (tw_dN_in a1 a2 hD) ?_
      refine tw_bind_t (tw_dN_in b1 b2 hD) ?_
      (first | refine tw_ite_t (by first | omega | (simp only [tw_gq]; omega)) ?_ | refine tw_ite_f (by first | omega | (simp only [tw_gq]; omega)) ?_); (first | refine tw_ite_t (by first | omega | (simp only [tw_gq]; omega)) ?_ | refine tw_ite_f (by first | omega | (simp only [tw_gq]; omega)) ?_)
      rfl
    · unfold f_Mod_sameData
      (first | refine tw_ite_t (by first | omega | (simp only [tw_gq]; omega)) ?_ | refine tw_ite_f (by first | omega | (simp only [tw_gq]; omega)) ?_); (first | refine tw_ite_t (by first | omega | (simp only [tw_gq]; omega)) ?_ | refine tw_ite_f (by first | omega | (simp only [tw_gq]; omega)) ?_); (first | refine tw_ite_t (by first | omega | (simp only [tw_gq]; omega)) ?_ | refine tw_ite_f (by first | omega | (simp only [tw_gq]; omega)) ?_); (first | refine tw_ite_t (by first | omega | (simp only [tw_gq]; omega)) ?_ | refine tw_ite_f (by first | omega | (simp only [tw_gq]; omega)) ?_)
      refine tw_ob2_t (a1 := 0) (a2 := 0) ?_ ?_
      · cases N with
        | zero => omega
        | succ n => unfold f_Mod_sameData_L24; (first | refine tw_ite_t (by first | omega | (simp only [tw_gq]; omega)) ?_ | refine tw_ite_f (by first | omega | (simp only [tw_gq]; omega)) ?_); (first | refine tw_ite_t (by first | omega | (simp only [tw_gq]; omega)) ?_ | refine tw_ite_f (by first | omega | (simp only [tw_gq]; omega)) ?_); rfl
      · rw [if_pos (Or.inl rfl)]
set_option maxRecDepth 100000 in
def tw_RCP (o b n : Int) (F T C A F' T' C' A' : Int → Int) : Prop := (∀ m, m < o → F' m = F m ∧ T' m = T m ∧ C' m = C m ∧ A' m = A m) ∧ (∀ k, 0 ≤ k → k < n → F' (o + k) = F (b + k) ∧ T' (o + k) = T (b + k) ∧ C' (o + k) = C (b + k) ∧ A' (o + k) = A (b + k))
set_option maxRecDepth 100000 in
theorem tw_rPutD {de f t c a : Int} {F T C A : Int → Int} (h0 : 0 ≤ de) (h1 : de < 5000) : f_Mod_putData de F T C A f t c a = some (de + 1, upZ F de f, upZ T de t, upZ C de c, upZ A de a) := by
  unfold f_Mod_putData; (repeat (first | refine tw_ite_t (by first | omega | (simp only [tw_gq]; omega)) ?_ | refine tw_ite_f (by first | omega | (simp only [tw_gq]; omega)) ?_)); rfl
set_option maxRecDepth 100000 in
theorem tw_rCpL {o b n : Int} {F0 T0 C0 A0 : Int → Int} (b0 : 0 ≤ b) (hb : b + n ≤ o) (ho : o + n ≤ 5000) : ∀ (N : Nat) (i : Int) (F T C A : Int → Int), 0 ≤ i → i ≤ n → (n - i).toNat < N → tw_RCP o b i F0 T0 C0 A0 F T C A →
    ∃ F' T' C' A', f_Mod_copyData_L2 b n N i (o + i) F T C A = some (n, o + n, F', T', C', A') ∧ tw_RCP o b n F0 T0 C0 A0 F' T' C' A' := by
  intro N
  induction N with
  | zero => intro i F T C A i0 i1 hN; omega
  | succ N ih =>
    intro i F T C A i0 i1 hN h
    by_cases e : i = n
    · subst e
      refine ⟨F, T, C, A, ?_, h⟩
      unfold f_Mod_copyData_L2; (first | refine tw_ite_t (by first | omega | (simp only [tw_gq]; omega)) ?_ | refine tw_ite_f (by first | omega | (simp only [tw_gq]; omega)) ?_); (first | refine tw_ite_t (by first | omega | (simp only [tw_gq]; omega)) ?_ | refine tw_ite_f (by first | omega | (simp only [tw_gq]; omega)) ?_); rfl
    · obtain ⟨h1, h2⟩ := h
      obtain ⟨s1, s2, s3, s4⟩ := h1 (b + i) (by omega)
      obtain ⟨F', T', C', A', r1, r2⟩ := ih (i + 1) (upZ F (o + i) (F (b + i))) (upZ T (o + i) (T (b + i))) (upZ C (o + i) (C (b + i))) (upZ A (o + i) (A (b + i))) (by omega) (by omega) (by omega)
        ⟨fun m hm => by rw [tw_upN _ (by omega), tw_upN _ (by omega), tw_upN _ (by omega), tw_upN _ (by omega)]; exact h1 m hm, fun k k0 k1 => by
          by_cases ek : k = i
          · rw [ek, tw_upS, tw_upS, tw_upS, tw_upS]; exact ⟨s1, s2, s3, s4⟩
          · rw [tw_upN _ (by omega), tw_upN _ (by omega), tw_upN _ (by omega), tw_upN _ (by omega)]; exact h2 k k0 (by omega)⟩
      refine ⟨F', T', C', A', ?_, r2⟩
      unfold f_Mod_copyData_L2; (first | refine tw_ite_t (by first | omega | (simp only [tw_gq]; omega)) ?_ | refine tw_ite_f (by first | omega | (simp only [tw_gq]; omega)) ?_); (first | refine tw_ite_t (by first | omega | (simp only [tw_gq]; omega)) ?_ | refine tw_ite_f (by first | omega | (simp only [tw_gq]; omega)) ?_); (first | refine tw_ite_t (by first | omega | (simp only [tw_gq]; omega)) ?_ | refine tw_ite_f (by first | omega | (simp only [tw_gq]; omega)) ?_); (first | refine tw_ite_t (by first | omega | (simp only [tw_gq]; omega)) ?_ | refine tw_ite_f (by first | omega | (simp only [tw_gq]; omega)) ?_); (first | refine tw_ite_t (by first | omega | (simp only [tw_gq]; omega)) ?_ | refine tw_ite_f (by first | omega | (simp only [tw_gq]; omega)) ?_); (first | refine tw_ite_t (by first | omega | (simp only [tw_gq]; omega)) ?_ | refine tw_ite_f (by first | omega | (simp only [tw_gq]; omega)) ?_)
      refine tw_ob5_t (tw_rPutD (by omega) (by omega)) ?_
      rw [show o + i + 1 = o + (i + 1) by omega]
      exact r1
set_option maxRecDepth 100000 in
theorem tw_rCp {o b n : Int} {F T C A : Int → Int} (b0 : 0 ≤ b) (n0 : 0 ≤ n) (n2 : n ≤ 200) (hb : b + n ≤ o) (ho : o + n ≤ 5000) {N : Nat} (hN : 300 ≤ N) : ∃ F' T' C' A', f_Mod_copyData N o F T C A b n = some (o + n, F', T', C', A') ∧ tw_RCP o b n F T C A F' T' C' A' := by
  obtain ⟨F', T', C', A', r1, r2⟩ := tw_rCpL (F0 := F) (T0 := T) (C0 := C) (A0 := A) b0 hb ho N 0 F T C A (by omega) n0 (by omega) ⟨fun _ _ => ⟨rfl, rfl, rfl, rfl⟩, fun k _ _ => by omega⟩
  rw [show o + 0 = o by omega] at r1
  exact ⟨F', T', C', A', by unfold f_Mod_copyData; exact tw_ob6_t r1 rfl, r2⟩
set_option maxRecDepth 100000 in
theorem tw_rMkD {R_values de b : Int} {R_valueKinds R_valueNumbers R_from R_length R_given : Int → Int} (h0 : 0 ≤ R_values) (h : R_values < 3700) : f_Mod_makeData R_values de R_valueKinds R_valueNumbers R_from R_length R_given b = some (R_values, R_values + 1, upZ R_valueKinds R_values 4, upZ R_valueNumbers R_values 0, upZ R_from R_values b, upZ R_length R_values (de - b), upZ R_given R_values 0) := by
  unfold f_Mod_makeData
  refine tw_ob5_t (tw_rmake h0 h) ?_
  (first | refine tw_ite_t (by first | omega | (simp only [tw_gq]; omega)) ?_ | refine tw_ite_f (by first | omega | (simp only [tw_gq]; omega)) ?_); (first | refine tw_ite_t (by first | omega | (simp only [tw_gq]; omega)) ?_ | refine tw_ite_f (by first | omega | (simp only [tw_gq]; omega)) ?_); rfl
set_option maxRecDepth 100000 in
theorem tw_rMkB {R_values te n : Int} {R_valueKinds R_valueNumbers R_from R_length R_given : Int → Int} (h0 : 0 ≤ R_values) (h : R_values < 3700) (hn : 0 ≤ n ∧ n ≤ 64) : f_Mod_makeBytes R_values te R_valueKinds R_valueNumbers R_from R_length R_given n = some (R_values, R_values + 1, te + n, upZ R_valueKinds R_values 1, upZ R_valueNumbers R_values n, upZ R_from R_values te, upZ R_length R_values n, upZ R_given R_values 0) := by
  unfold f_Mod_makeBytes
  (first | refine tw_ite_t (by first | omega | (simp only [tw_gq]; omega)) ?_ | refine tw_ite_f (by first | omega | (simp only [tw_gq]; omega)) ?_)
  refine tw_ob5_t (tw_rmake h0 h) ?_
  (first | refine tw_ite_t (by first | omega | (simp only [tw_gq]; omega)) ?_ | refine tw_ite_f (by first | omega | (simp only [tw_gq]; omega)) ?_); (first | refine tw_ite_t (by first | omega | (simp only [tw_gq]; omega)) ?_ | refine tw_ite_f (by first | omega | (simp only [tw_gq]; omega)) ?_); rfl
set_option maxRecDepth 100000 in
theorem tw_NR_cp {VB_top : Int} {VB_row : Int → Int} {R_textEnd : Int} {R_texts : Int → Int} {D_forms : Int → Int} {D_counts : Int → Int} {D_numbers : Int → Int} {R_forms : Int → Int} {R_tags : Int → Int} {R_counts : Int → Int} {R_textsAt : Int → Int} {q d q' d' : Int} {D_forms' D_counts' D_numbers' R_forms' R_tags' R_counts' R_textsAt' : Int → Int} (h : tw_NR VB_top VB_row R_textEnd R_texts D_forms D_counts D_numbers R_forms R_tags R_counts R_textsAt q d) (e1 : D_forms' q' = D_forms q) (e2 : D_counts' q' = D_counts q) (e3 : D_numbers' q' = D_numbers q) (f1 : R_forms' d' = R_forms d) (f2 : R_tags' d' = R_tags d) (f3 : R_counts' d' = R_counts d) (f4 : R_textsAt' d' = R_textsAt d) :
    tw_NR VB_top VB_row R_textEnd R_texts D_forms' D_counts' D_numbers' R_forms' R_tags' R_counts' R_textsAt' q' d' := by
  unfold tw_NR at *
  rw [e1, e2, e3, f1, f2, f3, f4]
  exact h
set_option maxRecDepth 100000 in
theorem tw_GR_of_RCP {o b n : Int} {F T C A F' T' C' A' : Int → Int} (h : tw_RCP o b n F T C A F' T' C' A') : tw_GR o F F' ∧ tw_GR o T T' ∧ tw_GR o C C' ∧ tw_GR o A A' := ⟨fun k hk => (h.1 k hk).1, fun k hk => (h.1 k hk).2.1, fun k hk => (h.1 k hk).2.2.1, fun k hk => (h.1 k hk).2.2.2⟩
set_option maxRecDepth 100000 in
def tw_RSL (ok : Int → Int → Int → Prop) (cs : Int → Prop) (ps : Int → Int) (nc : Int) (R_values : Int) (R_nodeOf : Int → Int) (R_rowOf : Int → Int) (D_top : Int) (D_nodes : Int → Int) (R_dataEnd : Int) (VB_top : Int) (VB_row : Int → Int) (R_textEnd : Int) (R_texts : Int → Int) (D_forms : Int → Int) (D_counts : Int → Int) (D_numbers : Int → Int) (R_forms : Int → Int) (R_tags : Int → Int) (R_counts : Int → Int) (R_textsAt : Int → Int) (V_top : Int) (V_kinds : Int → Int) (V_numbers : Int → Int) (V_parts : Int → Int) (V_links : Int → Int) (R_valueKinds : Int → Int) (R_valueNumbers : Int → Int) (R_from : Int → Int) (R_length : Int → Int) (R_given : Int → Int) (R_firstGiven : Int → Int) (R_secondGiven : Int → Int) (D_depths : Int → Int) (D_weights : Int → Int) (R_values' : Int) (R_nodeOf' : Int → Int) (R_rowOf' : Int → Int) (D_top' : Int) (D_nodes' : Int → Int) (R_dataEnd' : Int) (VB_top' : Int) (VB_row' : Int → Int) (R_textEnd' : Int) (R_texts' : Int → Int) (D_forms' : Int → Int) (D_counts' : Int → Int) (D_numbers' : Int → Int) (R_forms' : Int → Int) (R_tags' : Int → Int) (R_counts' : Int → Int) (R_textsAt' : Int → Int) (V_top' : Int) (V_kinds' : Int → Int) (V_numbers' : Int → Int) (V_parts' : Int → Int) (V_links' : Int → Int) (R_valueKinds' : Int → Int) (R_valueNumbers' : Int → Int) (R_from' : Int → Int) (R_length' : Int → Int) (R_given' : Int → Int) (R_firstGiven' : Int → Int) (R_secondGiven' : Int → Int) (D_depths' : Int → Int) (D_weights' : Int → Int) (r v : Int) : Prop := tw_XV ok cs ps nc R_values' R_nodeOf' R_rowOf' D_top' D_nodes' R_dataEnd' VB_top' VB_row' R_textEnd' R_texts' D_forms' D_counts' D_numbers' R_forms' R_tags' R_counts' R_textsAt' V_top' V_kinds' V_numbers' V_parts' V_links' R_valueKinds' R_valueNumbers' R_from' R_length' R_given' R_firstGiven' R_secondGiven' D_depths' D_weights' ∧ tw_GRV R_values R_nodeOf R_rowOf D_top D_nodes R_dataEnd VB_top VB_row R_textEnd R_texts D_forms D_counts D_numbers R_forms R_tags R_counts R_textsAt V_top V_kinds V_numbers V_parts V_links R_valueKinds R_valueNumbers R_from R_length R_given R_firstGiven R_secondGiven R_values' R_nodeOf' R_rowOf' D_top' D_nodes' R_dataEnd' VB_top' VB_row' R_textEnd' R_texts' D_forms' D_counts' D_numbers' R_forms' R_tags' R_counts' R_textsAt' V_top' V_kinds' V_numbers' V_parts' V_links' R_valueKinds' R_valueNumbers' R_from' R_length' R_given' R_firstGiven' R_secondGiven' ∧ tw_vok cs V_top' r ∧ ps r = v ∧ V_top' ≤ V_top + tw_SZ V_kinds' V_parts' V_links' D_nodes' D_weights' r ∧ D_top' ≤ D_top + tw_SZ V_kinds' V_parts' V_links' D_nodes' D_weights' r ∧ VB_top' ≤ VB_top + 8 * tw_SZ V_kinds' V_parts' V_links' D_nodes' D_weights' r ∧ R_textEnd' ≤ R_textEnd + 8 * tw_SZ V_kinds' V_parts' V_links' D_nodes' D_weights' r ∧ R_dataEnd' ≤ R_dataEnd + tw_SZ V_kinds' V_parts' V_links' D_nodes' D_weights' r ∧ V_top' ≤ V_top + 1 ∧ D_top' ≤ D_top + 200 ∧ R_dataEnd' ≤ R_dataEnd + 200
set_option maxRecDepth 100000 in
theorem tw_RSL_mk {ok : Int → Int → Int → Prop} {cs : Int → Prop} {ps : Int → Int} {nc : Int} {R_values : Int} {R_nodeOf : Int → Int} {R_rowOf : Int → Int} {D_top : Int} {D_nodes : Int → Int} {R_dataEnd : Int} {VB_top : Int} {VB_row : Int → Int} {R_textEnd : Int} {R_texts : Int → Int} {D_forms : Int → Int} {D_counts : Int → Int} {D_numbers : Int → Int} {R_forms : Int → Int} {R_tags : Int → Int} {R_counts : Int → Int} {R_textsAt : Int → Int} {V_top : Int} {V_kinds : Int → Int} {V_numbers : Int → Int} {V_parts : Int → Int} {V_links : Int → Int} {R_valueKinds : Int → Int} {R_valueNumbers : Int → Int} {R_from : Int → Int} {R_length : Int → Int} {R_given : Int → Int} {R_firstGiven : Int → Int} {R_secondGiven : Int → Int} {D_depths : Int → Int} {D_weights : Int → Int} {D_top' VB_top' R_textEnd' R_dataEnd' : Int} {D_forms' D_counts' D_numbers' D_nodes' D_depths' D_weights' VB_row' R_texts' R_forms' R_tags' R_counts' R_textsAt' : Int → Int} {k n a b n2 sz : Int} {R_from' R_length' : Int → Int}
    (hm : tw_XV ok cs ps nc R_values R_nodeOf R_rowOf D_top' D_nodes' R_dataEnd' VB_top' VB_row' R_textEnd' R_texts' D_forms' D_counts' D_numbers' R_forms' R_tags' R_counts' R_textsAt' V_top V_kinds V_numbers V_parts V_links R_valueKinds R_valueNumbers R_from R_length R_given R_firstGiven R_secondGiven D_depths' D_weights'
    ∧ tw_GRV R_values R_nodeOf R_rowOf D_top D_nodes R_dataEnd VB_top VB_row R_textEnd R_texts D_forms D_counts D_numbers R_forms R_tags R_counts R_textsAt V_top V_kinds V_numbers V_parts V_links R_valueKinds R_valueNumbers R_from R_length R_given R_firstGiven R_secondGiven R_values R_nodeOf R_rowOf D_top' D_nodes' R_dataEnd' VB_top' VB_row' R_textEnd' R_texts' D_forms' D_counts' D_numbers' R_forms' R_tags' R_counts' R_textsAt' V_top V_kinds V_numbers V_parts V_links R_valueKinds R_valueNumbers R_from R_length R_given R_firstGiven R_secondGiven)
    (g23 : tw_GR R_values R_from R_from') (g24 : tw_GR R_values R_length R_length') (hk : 0 ≤ k ∧ k ≤ 4) (hn : -9223372036854775808 ≤ n ∧ n ≤ 9223372036854775807) (c0 : k = 0 ∨ k = 2 → n = n2) (c2 : k = 2 → n = 0 ∨ n = 1)
    (c1 : k = 1 → b = R_length' R_values ∧ n2 = R_length' R_values ∧ tw_BB VB_top' VB_row' R_textEnd' R_texts' a (R_from' R_values) (R_length' R_values))
    (c4 : k = 4 → R_length' R_values = D_nodes' a ∧ tw_DD D_top' D_nodes' R_dataEnd' VB_top' VB_row' R_textEnd' R_texts' D_forms' D_counts' D_numbers' R_forms' R_tags' R_counts' R_textsAt' a (R_from' R_values))
    (hs : sz = (if k = 1 then 1 + b / 8 else if k = 4 then D_nodes' a + D_weights' a / 8 else 1)) (s1 : 1 ≤ sz) (s2 : D_top' ≤ D_top + sz) (s3 : VB_top' ≤ VB_top + 8 * sz) (s4 : R_textEnd' ≤ R_textEnd + 8 * sz) (s5 : R_dataEnd' ≤ R_dataEnd + sz) (s6 : D_top' ≤ D_top + 200 := by omega) (s7 : R_dataEnd' ≤ R_dataEnd + 200 := by omega) :
    tw_RSL ok cs ps nc R_values R_nodeOf R_rowOf D_top D_nodes R_dataEnd VB_top VB_row R_textEnd R_texts D_forms D_counts D_numbers R_forms R_tags R_counts R_textsAt V_top V_kinds V_numbers V_parts V_links R_valueKinds R_valueNumbers R_from R_length R_given R_firstGiven R_secondGiven D_depths D_weights (R_values + 1) R_nodeOf R_rowOf D_top' D_nodes' R_dataEnd' VB_top' VB_row' R_textEnd' R_texts' D_forms' D_counts' D_numbers' R_forms' R_tags' R_counts' R_textsAt' (V_top + 1) (upZ V_kinds V_top k) (upZ V_numbers V_top n) (upZ V_parts V_top a) (upZ V_links V_top b) (upZ R_valueKinds R_values k) (upZ R_valueNumbers R_values n2) R_from' R_length' (upZ R_given R_values 0) R_firstGiven R_secondGiven D_depths' D_weights' V_top R_values := by
  obtain ⟨h1, h2⟩ := hm
  obtain ⟨x1, x2, x3, x4⟩ := tw_new_val h1 g23 g24 hk hn c0 c2 c1 c4
  have ez : tw_SZ (upZ V_kinds V_top k) (upZ V_parts V_top a) (upZ V_links V_top b) D_nodes' D_weights' V_top = sz := by
    unfold tw_SZ; rw [tw_upS, tw_upS, tw_upS, hs]
  refine ⟨x1, tw_GRV_trans h2 x2, x3, x4, ?_, ?_, ?_, ?_, ?_, by omega, s6, s7⟩ <;> rw [ez] <;> omega
set_option maxRecDepth 100000 in
theorem tw_XV_mid {ok : Int → Int → Int → Prop} {cs : Int → Prop} {ps : Int → Int} {nc : Int} {R_values : Int} {R_nodeOf : Int → Int} {R_rowOf : Int → Int} {D_top : Int} {D_nodes : Int → Int} {R_dataEnd : Int} {VB_top : Int} {VB_row : Int → Int} {R_textEnd : Int} {R_texts : Int → Int} {D_forms : Int → Int} {D_counts : Int → Int} {D_numbers : Int → Int} {R_forms : Int → Int} {R_tags : Int → Int} {R_counts : Int → Int} {R_textsAt : Int → Int} {V_top : Int} {V_kinds : Int → Int} {V_numbers : Int → Int} {V_parts : Int → Int} {V_links : Int → Int} {R_valueKinds : Int → Int} {R_valueNumbers : Int → Int} {R_from : Int → Int} {R_length : Int → Int} {R_given : Int → Int} {R_firstGiven : Int → Int} {R_secondGiven : Int → Int} {D_depths : Int → Int} {D_weights : Int → Int} (h : tw_XV ok cs ps nc R_values R_nodeOf R_rowOf D_top D_nodes R_dataEnd VB_top VB_row R_textEnd R_texts D_forms D_counts D_numbers R_forms R_tags R_counts R_textsAt V_top V_kinds V_numbers V_parts V_links R_valueKinds R_valueNumbers R_from R_length R_given R_firstGiven R_secondGiven D_depths D_weights) : tw_XV ok cs ps nc R_values R_nodeOf R_rowOf D_top D_nodes R_dataEnd VB_top VB_row R_textEnd R_texts D_forms D_counts D_numbers R_forms R_tags R_counts R_textsAt V_top V_kinds V_numbers V_parts V_links R_valueKinds R_valueNumbers R_from R_length R_given R_firstGiven R_secondGiven D_depths D_weights ∧ tw_GRV R_values R_nodeOf R_rowOf D_top D_nodes R_dataEnd VB_top VB_row R_textEnd R_texts D_forms D_counts D_numbers R_forms R_tags R_counts R_textsAt V_top V_kinds V_numbers V_parts V_links R_valueKinds R_valueNumbers R_from R_length R_given R_firstGiven R_secondGiven R_values R_nodeOf R_rowOf D_top D_nodes R_dataEnd VB_top VB_row R_textEnd R_texts D_forms D_counts D_numbers R_forms R_tags R_counts R_textsAt V_top V_kinds V_numbers V_parts V_links R_valueKinds R_valueNumbers R_from R_length R_given R_firstGiven R_secondGiven := ⟨h, tw_GRV_refl⟩
