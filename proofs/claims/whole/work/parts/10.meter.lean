theorem d_Meter_start_0 : decode b_Meter_start 0 = .ok (.aload_n 0, 1) := by decide +kernel
theorem d_Meter_start_1 : decode b_Meter_start 1 = .ok (.iconst 0, 1) := by decide +kernel
theorem d_Meter_start_2 : decode b_Meter_start 2 = .ok (.putfield 9, 3) := by decide +kernel
theorem d_Meter_start_5 : decode b_Meter_start 5 = .ok (.aload_n 0, 1) := by decide +kernel
theorem d_Meter_start_6 : decode b_Meter_start 6 = .ok (.iconst 0, 1) := by decide +kernel
theorem d_Meter_start_7 : decode b_Meter_start 7 = .ok (.putfield 15, 3) := by decide +kernel
theorem d_Meter_start_10 : decode b_Meter_start 10 = .ok (.aload_n 0, 1) := by decide +kernel
theorem d_Meter_start_11 : decode b_Meter_start 11 = .ok (.iload_n 1, 1) := by decide +kernel
theorem d_Meter_start_12 : decode b_Meter_start 12 = .ok (.putfield 18, 3) := by decide +kernel
theorem d_Meter_start_15 : decode b_Meter_start 15 = .ok (.aload_n 0, 1) := by decide +kernel
theorem d_Meter_start_16 : decode b_Meter_start 16 = .ok (.iload_n 2, 1) := by decide +kernel
theorem d_Meter_start_17 : decode b_Meter_start 17 = .ok (.putfield 21, 3) := by decide +kernel
theorem d_Meter_start_20 : decode b_Meter_start 20 = .ok (.aload_n 0, 1) := by decide +kernel
theorem d_Meter_start_21 : decode b_Meter_start 21 = .ok (.iconst 0, 1) := by decide +kernel
theorem d_Meter_start_22 : decode b_Meter_start 22 = .ok (.putfield 24, 3) := by decide +kernel
theorem d_Meter_start_25 : decode b_Meter_start 25 = .ok (.return_, 1) := by decide +kernel
def f_Meter_start (M_steps : Int) (M_memory : Int) (M_mostSteps : Int) (M_mostMemory : Int) (M_fault : Int) (p1 : Int) (p2 : Int) : Option (Int × Int × Int × Int × Int) :=
  some (0, 0, p1, p2, 0)
set_option maxHeartbeats 4000000 in
set_option maxRecDepth 100000 in
theorem c_Meter_start {l : Launch} {D : va_G} {cI cL cB : ClassId} {ad : Nat → Nat} {M_steps : Int} {M_memory : Int} {M_mostSteps : Int} {M_mostMemory : Int} {M_fault : Int} {p1 : Int} {p2 : Int} {out : Int × Int × Int × Int × Int} (h : f_Meter_start M_steps M_memory M_mostSteps M_mostMemory M_fault p1 p2 = some out) : CT jF0 false l D [(cI, .int), (cL, .long), (cB, .byte)] y_Meter_start w_Meter_start ({ frames := 0, cells := 0, slots := 0, locals := 0 } : Room) [.ref (ad 23), .int (zI p1), .int (zI p2)] [(ad 23, .inr (6, [.int (zI M_steps), .int (zI M_memory), .int (zI M_mostSteps), .int (zI M_mostMemory), .int (zI M_fault)]))] none [(ad 23, .inr (6, [.int (zI (out.1)), .int (zI (out.2.1)), .int (zI (out.2.2.1)), .int (zI (out.2.2.2.1)), .int (zI (out.2.2.2.2))]))] 0 0 := by
  refine CT_of_J (cc := b_Meter_start) (maxL := 3) (ret := none) jF0_k (plainFor_of_name (by decide)) rfl (Nat.le_of_ble_eq_true rfl) ?_
  intro K hKl hKD X E
  subst hKl; subst hKD
  unfold f_Meter_start at h
  refine J_aload_n X d_Meter_start_0 rfl 0 rfl ?_
  refine J_iconst X d_Meter_start_1 ?_
  refine J_put (ws' := [(ad 23, .inr (6, [.int (zI 0), .int (zI M_memory), .int (zI M_mostSteps), .int (zI M_mostMemory), .int (zI M_fault)]))]) X (j_in in_Meter) ty_Meter tok_Meter nm_Meter 0 rfl rfl 0 (by decide) (j_m own_Meter_start (by decide +kernel)) rfl rfl rfl (Nat.le_of_ble_eq_true rfl) d_Meter_start_2 rfl ?_
  refine J_aload_n X d_Meter_start_5 rfl 0 rfl ?_
  refine J_iconst X d_Meter_start_6 ?_
  refine J_put (ws' := [(ad 23, .inr (6, [.int (zI 0), .int (zI 0), .int (zI M_mostSteps), .int (zI M_mostMemory), .int (zI M_fault)]))]) X (j_in in_Meter) ty_Meter tok_Meter nm_Meter 0 rfl rfl 1 (by decide) (j_m own_Meter_start (by decide +kernel)) rfl rfl rfl (Nat.le_of_ble_eq_true rfl) d_Meter_start_7 rfl ?_
  refine J_aload_n X d_Meter_start_10 rfl 0 rfl ?_
  refine J_iload_n X d_Meter_start_11 rfl 1 rfl ?_
  refine J_put (ws' := [(ad 23, .inr (6, [.int (zI 0), .int (zI 0), .int (zI p1), .int (zI M_mostMemory), .int (zI M_fault)]))]) X (j_in in_Meter) ty_Meter tok_Meter nm_Meter 0 rfl rfl 2 (by decide) (j_m own_Meter_start (by decide +kernel)) rfl rfl rfl (Nat.le_of_ble_eq_true rfl) d_Meter_start_12 rfl ?_
  refine J_aload_n X d_Meter_start_15 rfl 0 rfl ?_
  refine J_iload_n X d_Meter_start_16 rfl 2 rfl ?_
  refine J_put (ws' := [(ad 23, .inr (6, [.int (zI 0), .int (zI 0), .int (zI p1), .int (zI p2), .int (zI M_fault)]))]) X (j_in in_Meter) ty_Meter tok_Meter nm_Meter 0 rfl rfl 3 (by decide) (j_m own_Meter_start (by decide +kernel)) rfl rfl rfl (Nat.le_of_ble_eq_true rfl) d_Meter_start_17 rfl ?_
  refine J_aload_n X d_Meter_start_20 rfl 0 rfl ?_
  refine J_iconst X d_Meter_start_21 ?_
  refine J_put (ws' := [(ad 23, .inr (6, [.int (zI 0), .int (zI 0), .int (zI p1), .int (zI p2), .int (zI 0)]))]) X (j_in in_Meter) ty_Meter tok_Meter nm_Meter 0 rfl rfl 4 (by decide) (j_m own_Meter_start (by decide +kernel)) rfl rfl rfl (Nat.le_of_ble_eq_true rfl) d_Meter_start_22 rfl ?_
  cases h
  exact J_ret E rfl d_Meter_start_25 (Nat.le_refl _) (Nat.le_refl _) rfl

theorem d_Meter_steps_0 : decode b_Meter_steps 0 = .ok (.aload_n 0, 1) := by decide +kernel
theorem d_Meter_steps_1 : decode b_Meter_steps 1 = .ok (.getfield 9, 3) := by decide +kernel
theorem d_Meter_steps_4 : decode b_Meter_steps 4 = .ok (.ireturn, 1) := by decide +kernel
def f_Meter_steps (M_steps : Int) : Option (Int) :=
  some M_steps
set_option maxHeartbeats 4000000 in
set_option maxRecDepth 100000 in
theorem c_Meter_steps {l : Launch} {D : va_G} {cI cL cB : ClassId} {ad : Nat → Nat} {M_steps : Int} {M_memory : Int} {M_mostSteps : Int} {M_mostMemory : Int} {M_fault : Int} {out : Int} (h : f_Meter_steps M_steps = some out) : CT jF0 true l D [(cI, .int), (cL, .long), (cB, .byte)] y_Meter_steps w_Meter_steps ({ frames := 0, cells := 0, slots := 0, locals := 0 } : Room) [.ref (ad 23)] [(ad 23, .inr (6, [.int (zI M_steps), .int (zI M_memory), .int (zI M_mostSteps), .int (zI M_mostMemory), .int (zI M_fault)]))] (some (.int (zI out))) [(ad 23, .inr (6, [.int (zI M_steps), .int (zI M_memory), .int (zI M_mostSteps), .int (zI M_mostMemory), .int (zI M_fault)]))] 0 0 := by
  refine CT_of_J (cc := b_Meter_steps) (maxL := 1) (ret := (some .int)) jF0_k (plainFor_of_name (by decide)) rfl (Nat.le_of_ble_eq_true rfl) ?_
  intro K hKl hKD X E
  subst hKl; subst hKD
  unfold f_Meter_steps at h
  refine J_aload_n X d_Meter_steps_0 rfl 0 rfl ?_
  refine J_get X (j_in in_Meter) 0 rfl rfl 0 (by decide) (j_m own_Meter_steps (by decide +kernel)) rfl d_Meter_steps_1 ?_
  cases h
  exact J_ret E ⟨_, rfl, rfl⟩ d_Meter_steps_4 (Nat.le_refl _) (Nat.le_refl _) rfl

theorem d_Meter_memory_0 : decode b_Meter_memory 0 = .ok (.aload_n 0, 1) := by decide +kernel
theorem d_Meter_memory_1 : decode b_Meter_memory 1 = .ok (.getfield 15, 3) := by decide +kernel
theorem d_Meter_memory_4 : decode b_Meter_memory 4 = .ok (.ireturn, 1) := by decide +kernel
def f_Meter_memory (M_memory : Int) : Option (Int) :=
  some M_memory
set_option maxHeartbeats 4000000 in
set_option maxRecDepth 100000 in
theorem c_Meter_memory {l : Launch} {D : va_G} {cI cL cB : ClassId} {ad : Nat → Nat} {M_steps : Int} {M_memory : Int} {M_mostSteps : Int} {M_mostMemory : Int} {M_fault : Int} {out : Int} (h : f_Meter_memory M_memory = some out) : CT jF0 true l D [(cI, .int), (cL, .long), (cB, .byte)] y_Meter_memory w_Meter_memory ({ frames := 0, cells := 0, slots := 0, locals := 0 } : Room) [.ref (ad 23)] [(ad 23, .inr (6, [.int (zI M_steps), .int (zI M_memory), .int (zI M_mostSteps), .int (zI M_mostMemory), .int (zI M_fault)]))] (some (.int (zI out))) [(ad 23, .inr (6, [.int (zI M_steps), .int (zI M_memory), .int (zI M_mostSteps), .int (zI M_mostMemory), .int (zI M_fault)]))] 0 0 := by
  refine CT_of_J (cc := b_Meter_memory) (maxL := 1) (ret := (some .int)) jF0_k (plainFor_of_name (by decide)) rfl (Nat.le_of_ble_eq_true rfl) ?_
  intro K hKl hKD X E
  subst hKl; subst hKD
  unfold f_Meter_memory at h
  refine J_aload_n X d_Meter_memory_0 rfl 0 rfl ?_
  refine J_get X (j_in in_Meter) 0 rfl rfl 1 (by decide) (j_m own_Meter_memory (by decide +kernel)) rfl d_Meter_memory_1 ?_
  cases h
  exact J_ret E ⟨_, rfl, rfl⟩ d_Meter_memory_4 (Nat.le_refl _) (Nat.le_refl _) rfl

theorem d_Meter_fault_0 : decode b_Meter_fault 0 = .ok (.aload_n 0, 1) := by decide +kernel
theorem d_Meter_fault_1 : decode b_Meter_fault 1 = .ok (.getfield 24, 3) := by decide +kernel
theorem d_Meter_fault_4 : decode b_Meter_fault 4 = .ok (.ireturn, 1) := by decide +kernel
def f_Meter_fault (M_fault : Int) : Option (Int) :=
  some M_fault
set_option maxHeartbeats 4000000 in
set_option maxRecDepth 100000 in
theorem c_Meter_fault {l : Launch} {D : va_G} {cI cL cB : ClassId} {ad : Nat → Nat} {M_steps : Int} {M_memory : Int} {M_mostSteps : Int} {M_mostMemory : Int} {M_fault : Int} {out : Int} (h : f_Meter_fault M_fault = some out) : CT jF0 true l D [(cI, .int), (cL, .long), (cB, .byte)] y_Meter_fault w_Meter_fault ({ frames := 0, cells := 0, slots := 0, locals := 0 } : Room) [.ref (ad 23)] [(ad 23, .inr (6, [.int (zI M_steps), .int (zI M_memory), .int (zI M_mostSteps), .int (zI M_mostMemory), .int (zI M_fault)]))] (some (.int (zI out))) [(ad 23, .inr (6, [.int (zI M_steps), .int (zI M_memory), .int (zI M_mostSteps), .int (zI M_mostMemory), .int (zI M_fault)]))] 0 0 := by
  refine CT_of_J (cc := b_Meter_fault) (maxL := 1) (ret := (some .int)) jF0_k (plainFor_of_name (by decide)) rfl (Nat.le_of_ble_eq_true rfl) ?_
  intro K hKl hKD X E
  subst hKl; subst hKD
  unfold f_Meter_fault at h
  refine J_aload_n X d_Meter_fault_0 rfl 0 rfl ?_
  refine J_get X (j_in in_Meter) 0 rfl rfl 4 (by decide) (j_m own_Meter_fault (by decide +kernel)) rfl d_Meter_fault_1 ?_
  cases h
  exact J_ret E ⟨_, rfl, rfl⟩ d_Meter_fault_4 (Nat.le_refl _) (Nat.le_refl _) rfl

theorem d_Meter_fail_0 : decode b_Meter_fail 0 = .ok (.aload_n 0, 1) := by decide +kernel
theorem d_Meter_fail_1 : decode b_Meter_fail 1 = .ok (.getfield 24, 3) := by decide +kernel
theorem d_Meter_fail_4 : decode b_Meter_fail 4 = .ok (.ifCond .ne 8, 3) := by decide +kernel
theorem d_Meter_fail_7 : decode b_Meter_fail 7 = .ok (.aload_n 0, 1) := by decide +kernel
theorem d_Meter_fail_8 : decode b_Meter_fail 8 = .ok (.iload_n 1, 1) := by decide +kernel
theorem d_Meter_fail_9 : decode b_Meter_fail 9 = .ok (.putfield 24, 3) := by decide +kernel
theorem d_Meter_fail_12 : decode b_Meter_fail 12 = .ok (.return_, 1) := by decide +kernel
def f_Meter_fail (M_fault : Int) (p1 : Int) : Option (Int) :=
  if rI M_fault = true then (if M_fault = 0 then (
   some p1) else (
   some M_fault)) else none
set_option maxHeartbeats 4000000 in
set_option maxRecDepth 100000 in
theorem c_Meter_fail {l : Launch} {D : va_G} {cI cL cB : ClassId} {ad : Nat → Nat} {M_steps : Int} {M_memory : Int} {M_mostSteps : Int} {M_mostMemory : Int} {M_fault : Int} {p1 : Int} {out : Int} (h : f_Meter_fail M_fault p1 = some out) : CT jF0 false l D [(cI, .int), (cL, .long), (cB, .byte)] y_Meter_fail w_Meter_fail ({ frames := 0, cells := 0, slots := 0, locals := 0 } : Room) [.ref (ad 23), .int (zI p1)] [(ad 23, .inr (6, [.int (zI M_steps), .int (zI M_memory), .int (zI M_mostSteps), .int (zI M_mostMemory), .int (zI M_fault)]))] none [(ad 23, .inr (6, [.int (zI M_steps), .int (zI M_memory), .int (zI M_mostSteps), .int (zI M_mostMemory), .int (zI out)]))] 0 0 := by
  refine CT_of_J (cc := b_Meter_fail) (maxL := 2) (ret := none) jF0_k (plainFor_of_name (by decide)) rfl (Nat.le_of_ble_eq_true rfl) ?_
  intro K hKl hKD X E
  subst hKl; subst hKD
  unfold f_Meter_fail at h
  refine J_aload_n X d_Meter_fail_0 rfl 0 rfl ?_
  refine J_get X (j_in in_Meter) 0 rfl rfl 4 (by decide) (j_m own_Meter_fail (by decide +kernel)) rfl d_Meter_fail_1 ?_
  refine J_if_ne (tgt := 12) X d_Meter_fail_4 (by decide) h (fun c1 h => ?_) (fun c1 h => ?_)
  · cases h
    exact J_ret E rfl d_Meter_fail_12 (Nat.le_refl _) (Nat.le_refl _) rfl
  · refine J_aload_n X d_Meter_fail_7 rfl 0 rfl ?_
    refine J_iload_n X d_Meter_fail_8 rfl 1 rfl ?_
    refine J_put (ws' := [(ad 23, .inr (6, [.int (zI M_steps), .int (zI M_memory), .int (zI M_mostSteps), .int (zI M_mostMemory), .int (zI p1)]))]) X (j_in in_Meter) ty_Meter tok_Meter nm_Meter 0 rfl rfl 4 (by decide) (j_m own_Meter_fail (by decide +kernel)) rfl rfl rfl (Nat.le_of_ble_eq_true rfl) d_Meter_fail_9 rfl ?_
    cases h
    exact J_ret E rfl d_Meter_fail_12 (Nat.le_refl _) (Nat.le_refl _) rfl

theorem d_Meter_paySteps_0 : decode b_Meter_paySteps 0 = .ok (.iload_n 1, 1) := by decide +kernel
theorem d_Meter_paySteps_1 : decode b_Meter_paySteps 1 = .ok (.aload_n 0, 1) := by decide +kernel
theorem d_Meter_paySteps_2 : decode b_Meter_paySteps 2 = .ok (.getfield 18, 3) := by decide +kernel
theorem d_Meter_paySteps_5 : decode b_Meter_paySteps 5 = .ok (.aload_n 0, 1) := by decide +kernel
theorem d_Meter_paySteps_6 : decode b_Meter_paySteps 6 = .ok (.getfield 9, 3) := by decide +kernel
theorem d_Meter_paySteps_9 : decode b_Meter_paySteps 9 = .ok (.isub, 1) := by decide +kernel
theorem d_Meter_paySteps_10 : decode b_Meter_paySteps 10 = .ok (.if_icmp .le 10, 3) := by decide +kernel
theorem d_Meter_paySteps_13 : decode b_Meter_paySteps 13 = .ok (.aload_n 0, 1) := by decide +kernel
theorem d_Meter_paySteps_14 : decode b_Meter_paySteps 14 = .ok (.iconst 4, 1) := by decide +kernel
theorem d_Meter_paySteps_15 : decode b_Meter_paySteps 15 = .ok (.invokevirtual 27, 3) := by decide +kernel
theorem d_Meter_paySteps_18 : decode b_Meter_paySteps 18 = .ok (.iconst 0, 1) := by decide +kernel
theorem d_Meter_paySteps_19 : decode b_Meter_paySteps 19 = .ok (.ireturn, 1) := by decide +kernel
theorem d_Meter_paySteps_20 : decode b_Meter_paySteps 20 = .ok (.aload_n 0, 1) := by decide +kernel
theorem d_Meter_paySteps_21 : decode b_Meter_paySteps 21 = .ok (.dup, 1) := by decide +kernel
theorem d_Meter_paySteps_22 : decode b_Meter_paySteps 22 = .ok (.getfield 9, 3) := by decide +kernel
theorem d_Meter_paySteps_25 : decode b_Meter_paySteps 25 = .ok (.iload_n 1, 1) := by decide +kernel
theorem d_Meter_paySteps_26 : decode b_Meter_paySteps 26 = .ok (.iadd, 1) := by decide +kernel
theorem d_Meter_paySteps_27 : decode b_Meter_paySteps 27 = .ok (.putfield 9, 3) := by decide +kernel
theorem d_Meter_paySteps_30 : decode b_Meter_paySteps 30 = .ok (.iconst 1, 1) := by decide +kernel
theorem d_Meter_paySteps_31 : decode b_Meter_paySteps 31 = .ok (.ireturn, 1) := by decide +kernel
def f_Meter_paySteps (M_steps : Int) (M_mostSteps : Int) (M_fault : Int) (p1 : Int) : Option (Int × Int × Int) :=
  if jr2 p1 (M_mostSteps - M_steps) = true then (if p1 ≤ (M_mostSteps - M_steps) then (
   some (1, (M_steps + p1), M_fault)) else (
   Option.bind (f_Meter_fail M_fault 4) (fun M_fault_2 =>
    some (0, M_steps, M_fault_2)))) else none
set_option maxHeartbeats 4000000 in
set_option maxRecDepth 100000 in
theorem c_Meter_paySteps {l : Launch} {D : va_G} {cI cL cB : ClassId} {ad : Nat → Nat} {M_steps : Int} {M_memory : Int} {M_mostSteps : Int} {M_mostMemory : Int} {M_fault : Int} {p1 : Int} {out : Int × Int × Int} (h : f_Meter_paySteps M_steps M_mostSteps M_fault p1 = some out) : CT jF0 false l D [(cI, .int), (cL, .long), (cB, .byte)] y_Meter_paySteps w_Meter_paySteps ({ frames := 1, cells := 0, slots := 0, locals := 21 } : Room) [.ref (ad 23), .int (zI p1)] [(ad 23, .inr (6, [.int (zI M_steps), .int (zI M_memory), .int (zI M_mostSteps), .int (zI M_mostMemory), .int (zI M_fault)]))] (some (.int (zI out.1))) [(ad 23, .inr (6, [.int (zI (out.2.1)), .int (zI M_memory), .int (zI M_mostSteps), .int (zI M_mostMemory), .int (zI (out.2.2))]))] 0 0 := by
  refine CT_of_J (cc := b_Meter_paySteps) (maxL := 2) (ret := (some .boolean)) jF0_k (plainFor_of_name (by decide)) rfl (Nat.le_of_ble_eq_true rfl) ?_
  intro K hKl hKD X E
  subst hKl; subst hKD
  unfold f_Meter_paySteps at h
  refine J_iload_n X d_Meter_paySteps_0 rfl 1 rfl ?_
  refine J_aload_n X d_Meter_paySteps_1 rfl 0 rfl ?_
  refine J_get X (j_in in_Meter) 0 rfl rfl 2 (by decide) (j_m own_Meter_paySteps (by decide +kernel)) rfl d_Meter_paySteps_2 ?_
  refine J_aload_n X d_Meter_paySteps_5 rfl 0 rfl ?_
  refine J_get X (j_in in_Meter) 0 rfl rfl 0 (by decide) (j_m own_Meter_paySteps (by decide +kernel)) rfl d_Meter_paySteps_6 ?_
  refine J_isub X d_Meter_paySteps_9 ?_
  refine J_icmp_le (tgt := 20) X d_Meter_paySteps_10 (by decide) h (fun c1 h => ?_) (fun c1 h => ?_)
  · refine J_aload_n X d_Meter_paySteps_20 rfl 0 rfl ?_
    refine J_dup X d_Meter_paySteps_21 rfl ?_
    refine J_get X (j_in in_Meter) 0 rfl rfl 0 (by decide) (j_m own_Meter_paySteps (by decide +kernel)) rfl d_Meter_paySteps_22 ?_
    refine J_iload_n X d_Meter_paySteps_25 rfl 1 rfl ?_
    refine J_iadd X d_Meter_paySteps_26 ?_
    refine J_put (ws' := [(ad 23, .inr (6, [.int (zI (M_steps + p1)), .int (zI M_memory), .int (zI M_mostSteps), .int (zI M_mostMemory), .int (zI M_fault)]))]) X (j_in in_Meter) ty_Meter tok_Meter nm_Meter 0 rfl rfl 0 (by decide) (j_m own_Meter_paySteps (by decide +kernel)) rfl rfl rfl (Nat.le_of_ble_eq_true rfl) d_Meter_paySteps_27 rfl ?_
    refine J_iconst X d_Meter_paySteps_30 ?_
    cases h
    exact J_ret E ⟨_, rfl, j_bool (Or.inr rfl)⟩ d_Meter_paySteps_31 (Nat.le_refl _) (Nat.le_refl _) rfl
  · refine J_aload_n X d_Meter_paySteps_13 rfl 0 rfl ?_
    refine J_iconst X d_Meter_paySteps_14 ?_
    obtain ⟨M_fault_2, q3, h⟩ := wk_b h
    refine J_afterI0 (ws' := [(ad 23, .inr (6, [.int (zI M_steps), .int (zI M_memory), .int (zI M_mostSteps), .int (zI M_mostMemory), .int (zI M_fault_2)]))]) X (jrunV X (c_Meter_fail (ad := ad) q3) jF0_k (fun _ _ _ _ => trivial) (jgV own_Meter_paySteps (by decide +kernel)) rfl rfl rfl pd_Meter_fail (by decide) [0] rfl (by decide) 0 6 rfl rfl rfl rfl (Nat.le_of_ble_eq_true rfl) d_Meter_paySteps_15 (by decide)) [0] [] [0] rfl rfl (by decide) (by decide) rfl (by decide) ?_
    refine J_iconst X d_Meter_paySteps_18 ?_
    cases h
    exact J_ret E ⟨_, rfl, j_bool (Or.inl rfl)⟩ d_Meter_paySteps_19 (Nat.le_refl _) (Nat.le_refl _) rfl

theorem d_Meter_payMemory_0 : decode b_Meter_payMemory 0 = .ok (.iload_n 1, 1) := by decide +kernel
theorem d_Meter_payMemory_1 : decode b_Meter_payMemory 1 = .ok (.aload_n 0, 1) := by decide +kernel
theorem d_Meter_payMemory_2 : decode b_Meter_payMemory 2 = .ok (.getfield 21, 3) := by decide +kernel
theorem d_Meter_payMemory_5 : decode b_Meter_payMemory 5 = .ok (.aload_n 0, 1) := by decide +kernel
theorem d_Meter_payMemory_6 : decode b_Meter_payMemory 6 = .ok (.getfield 15, 3) := by decide +kernel
theorem d_Meter_payMemory_9 : decode b_Meter_payMemory 9 = .ok (.isub, 1) := by decide +kernel
theorem d_Meter_payMemory_10 : decode b_Meter_payMemory 10 = .ok (.if_icmp .le 10, 3) := by decide +kernel
theorem d_Meter_payMemory_13 : decode b_Meter_payMemory 13 = .ok (.aload_n 0, 1) := by decide +kernel
theorem d_Meter_payMemory_14 : decode b_Meter_payMemory 14 = .ok (.iconst 5, 1) := by decide +kernel
theorem d_Meter_payMemory_15 : decode b_Meter_payMemory 15 = .ok (.invokevirtual 27, 3) := by decide +kernel
theorem d_Meter_payMemory_18 : decode b_Meter_payMemory 18 = .ok (.iconst 0, 1) := by decide +kernel
theorem d_Meter_payMemory_19 : decode b_Meter_payMemory 19 = .ok (.ireturn, 1) := by decide +kernel
theorem d_Meter_payMemory_20 : decode b_Meter_payMemory 20 = .ok (.aload_n 0, 1) := by decide +kernel
theorem d_Meter_payMemory_21 : decode b_Meter_payMemory 21 = .ok (.dup, 1) := by decide +kernel
theorem d_Meter_payMemory_22 : decode b_Meter_payMemory 22 = .ok (.getfield 15, 3) := by decide +kernel
theorem d_Meter_payMemory_25 : decode b_Meter_payMemory 25 = .ok (.iload_n 1, 1) := by decide +kernel
theorem d_Meter_payMemory_26 : decode b_Meter_payMemory 26 = .ok (.iadd, 1) := by decide +kernel
theorem d_Meter_payMemory_27 : decode b_Meter_payMemory 27 = .ok (.putfield 15, 3) := by decide +kernel
theorem d_Meter_payMemory_30 : decode b_Meter_payMemory 30 = .ok (.iconst 1, 1) := by decide +kernel
theorem d_Meter_payMemory_31 : decode b_Meter_payMemory 31 = .ok (.ireturn, 1) := by decide +kernel
def f_Meter_payMemory (M_memory : Int) (M_mostMemory : Int) (M_fault : Int) (p1 : Int) : Option (Int × Int × Int) :=
  if jr2 p1 (M_mostMemory - M_memory) = true then (if p1 ≤ (M_mostMemory - M_memory) then (
   some (1, (M_memory + p1), M_fault)) else (
   Option.bind (f_Meter_fail M_fault 5) (fun M_fault_2 =>
    some (0, M_memory, M_fault_2)))) else none
set_option maxHeartbeats 4000000 in
set_option maxRecDepth 100000 in
theorem c_Meter_payMemory {l : Launch} {D : va_G} {cI cL cB : ClassId} {ad : Nat → Nat} {M_steps : Int} {M_memory : Int} {M_mostSteps : Int} {M_mostMemory : Int} {M_fault : Int} {p1 : Int} {out : Int × Int × Int} (h : f_Meter_payMemory M_memory M_mostMemory M_fault p1 = some out) : CT jF0 false l D [(cI, .int), (cL, .long), (cB, .byte)] y_Meter_payMemory w_Meter_payMemory ({ frames := 1, cells := 0, slots := 0, locals := 21 } : Room) [.ref (ad 23), .int (zI p1)] [(ad 23, .inr (6, [.int (zI M_steps), .int (zI M_memory), .int (zI M_mostSteps), .int (zI M_mostMemory), .int (zI M_fault)]))] (some (.int (zI out.1))) [(ad 23, .inr (6, [.int (zI M_steps), .int (zI (out.2.1)), .int (zI M_mostSteps), .int (zI M_mostMemory), .int (zI (out.2.2))]))] 0 0 := by
  refine CT_of_J (cc := b_Meter_payMemory) (maxL := 2) (ret := (some .boolean)) jF0_k (plainFor_of_name (by decide)) rfl (Nat.le_of_ble_eq_true rfl) ?_
  intro K hKl hKD X E
  subst hKl; subst hKD
  unfold f_Meter_payMemory at h
  refine J_iload_n X d_Meter_payMemory_0 rfl 1 rfl ?_
  refine J_aload_n X d_Meter_payMemory_1 rfl 0 rfl ?_
  refine J_get X (j_in in_Meter) 0 rfl rfl 3 (by decide) (j_m own_Meter_payMemory (by decide +kernel)) rfl d_Meter_payMemory_2 ?_
  refine J_aload_n X d_Meter_payMemory_5 rfl 0 rfl ?_
  refine J_get X (j_in in_Meter) 0 rfl rfl 1 (by decide) (j_m own_Meter_payMemory (by decide +kernel)) rfl d_Meter_payMemory_6 ?_
  refine J_isub X d_Meter_payMemory_9 ?_
  refine J_icmp_le (tgt := 20) X d_Meter_payMemory_10 (by decide) h (fun c1 h => ?_) (fun c1 h => ?_)
  · refine J_aload_n X d_Meter_payMemory_20 rfl 0 rfl ?_
    refine J_dup X d_Meter_payMemory_21 rfl ?_
    refine J_get X (j_in in_Meter) 0 rfl rfl 1 (by decide) (j_m own_Meter_payMemory (by decide +kernel)) rfl d_Meter_payMemory_22 ?_
    refine J_iload_n X d_Meter_payMemory_25 rfl 1 rfl ?_
    refine J_iadd X d_Meter_payMemory_26 ?_
    refine J_put (ws' := [(ad 23, .inr (6, [.int (zI M_steps), .int (zI (M_memory + p1)), .int (zI M_mostSteps), .int (zI M_mostMemory), .int (zI M_fault)]))]) X (j_in in_Meter) ty_Meter tok_Meter nm_Meter 0 rfl rfl 1 (by decide) (j_m own_Meter_payMemory (by decide +kernel)) rfl rfl rfl (Nat.le_of_ble_eq_true rfl) d_Meter_payMemory_27 rfl ?_
    refine J_iconst X d_Meter_payMemory_30 ?_
    cases h
    exact J_ret E ⟨_, rfl, j_bool (Or.inr rfl)⟩ d_Meter_payMemory_31 (Nat.le_refl _) (Nat.le_refl _) rfl
  · refine J_aload_n X d_Meter_payMemory_13 rfl 0 rfl ?_
    refine J_iconst X d_Meter_payMemory_14 ?_
    obtain ⟨M_fault_2, q3, h⟩ := wk_b h
    refine J_afterI0 (ws' := [(ad 23, .inr (6, [.int (zI M_steps), .int (zI M_memory), .int (zI M_mostSteps), .int (zI M_mostMemory), .int (zI M_fault_2)]))]) X (jrunV X (c_Meter_fail (ad := ad) q3) jF0_k (fun _ _ _ _ => trivial) (jgV own_Meter_payMemory (by decide +kernel)) rfl rfl rfl pd_Meter_fail (by decide) [0] rfl (by decide) 0 6 rfl rfl rfl rfl (Nat.le_of_ble_eq_true rfl) d_Meter_payMemory_15 (by decide)) [0] [] [0] rfl rfl (by decide) (by decide) rfl (by decide) ?_
    refine J_iconst X d_Meter_payMemory_18 ?_
    cases h
    exact J_ret E ⟨_, rfl, j_bool (Or.inl rfl)⟩ d_Meter_payMemory_19 (Nat.le_refl _) (Nat.le_refl _) rfl

theorem d_Scopes_forget_0 : decode b_Scopes_forget 0 = .ok (.aload_n 0, 1) := by decide +kernel
theorem d_Scopes_forget_1 : decode b_Scopes_forget 1 = .ok (.iconst 0, 1) := by decide +kernel
theorem d_Scopes_forget_2 : decode b_Scopes_forget 2 = .ok (.putfield 18, 3) := by decide +kernel
theorem d_Scopes_forget_5 : decode b_Scopes_forget 5 = .ok (.return_, 1) := by decide +kernel
def f_Scopes_forget (S_top : Int) : Option (Int) :=
  some 0
set_option maxHeartbeats 4000000 in
set_option maxRecDepth 100000 in
theorem c_Scopes_forget {l : Launch} {D : va_G} {cI cL cB : ClassId} {ad : Nat → Nat} {S_top : Int} {out : Int} (h : f_Scopes_forget S_top = some out) : CT jF0 false l D [(cI, .int), (cL, .long), (cB, .byte)] y_Scopes_forget w_Scopes_forget ({ frames := 0, cells := 0, slots := 0, locals := 0 } : Room) [.ref (ad 28)] [(ad 28, .inr (8, [.ref (ad 29), .ref (ad 30), .int (zI S_top)]))] none [(ad 28, .inr (8, [.ref (ad 29), .ref (ad 30), .int (zI out)]))] 0 0 := by
  refine CT_of_J (cc := b_Scopes_forget) (maxL := 1) (ret := none) jF0_k (plainFor_of_name (by decide)) rfl (Nat.le_of_ble_eq_true rfl) ?_
  intro K hKl hKD X E
  subst hKl; subst hKD
  unfold f_Scopes_forget at h
  refine J_aload_n X d_Scopes_forget_0 rfl 0 rfl ?_
  refine J_iconst X d_Scopes_forget_1 ?_
  refine J_put (ws' := [(ad 28, .inr (8, [.ref (ad 29), .ref (ad 30), .int (zI 0)]))]) X (j_in in_Scopes) ty_Scopes tok_Scopes nm_Scopes 0 rfl rfl 2 (by decide) (j_m own_Scopes_forget (by decide +kernel)) rfl rfl rfl (Nat.le_of_ble_eq_true rfl) d_Scopes_forget_2 rfl ?_
  cases h
  exact J_ret E rfl d_Scopes_forget_5 (Nat.le_refl _) (Nat.le_refl _) rfl

theorem d_Scopes_bind_0 : decode b_Scopes_bind 0 = .ok (.aload_n 0, 1) := by decide +kernel
theorem d_Scopes_bind_1 : decode b_Scopes_bind 1 = .ok (.getfield 18, 3) := by decide +kernel
theorem d_Scopes_bind_4 : decode b_Scopes_bind 4 = .ok (.sipush 3000, 3) := by decide +kernel
theorem d_Scopes_bind_7 : decode b_Scopes_bind 7 = .ok (.if_icmp .lt 5, 3) := by decide +kernel
theorem d_Scopes_bind_10 : decode b_Scopes_bind 10 = .ok (.iconst (-1), 1) := by decide +kernel
theorem d_Scopes_bind_11 : decode b_Scopes_bind 11 = .ok (.ireturn, 1) := by decide +kernel
theorem d_Scopes_bind_12 : decode b_Scopes_bind 12 = .ok (.aload_n 0, 1) := by decide +kernel
theorem d_Scopes_bind_13 : decode b_Scopes_bind 13 = .ok (.getfield 9, 3) := by decide +kernel
theorem d_Scopes_bind_16 : decode b_Scopes_bind 16 = .ok (.aload_n 0, 1) := by decide +kernel
theorem d_Scopes_bind_17 : decode b_Scopes_bind 17 = .ok (.getfield 18, 3) := by decide +kernel
theorem d_Scopes_bind_20 : decode b_Scopes_bind 20 = .ok (.iload_n 1, 1) := by decide +kernel
theorem d_Scopes_bind_21 : decode b_Scopes_bind 21 = .ok (.iastore, 1) := by decide +kernel
theorem d_Scopes_bind_22 : decode b_Scopes_bind 22 = .ok (.aload_n 0, 1) := by decide +kernel
theorem d_Scopes_bind_23 : decode b_Scopes_bind 23 = .ok (.getfield 15, 3) := by decide +kernel
theorem d_Scopes_bind_26 : decode b_Scopes_bind 26 = .ok (.aload_n 0, 1) := by decide +kernel
theorem d_Scopes_bind_27 : decode b_Scopes_bind 27 = .ok (.getfield 18, 3) := by decide +kernel
theorem d_Scopes_bind_30 : decode b_Scopes_bind 30 = .ok (.iload_n 2, 1) := by decide +kernel
theorem d_Scopes_bind_31 : decode b_Scopes_bind 31 = .ok (.iastore, 1) := by decide +kernel
theorem d_Scopes_bind_32 : decode b_Scopes_bind 32 = .ok (.aload_n 0, 1) := by decide +kernel
theorem d_Scopes_bind_33 : decode b_Scopes_bind 33 = .ok (.dup, 1) := by decide +kernel
theorem d_Scopes_bind_34 : decode b_Scopes_bind 34 = .ok (.getfield 18, 3) := by decide +kernel
theorem d_Scopes_bind_37 : decode b_Scopes_bind 37 = .ok (.iconst 1, 1) := by decide +kernel
theorem d_Scopes_bind_38 : decode b_Scopes_bind 38 = .ok (.iadd, 1) := by decide +kernel
theorem d_Scopes_bind_39 : decode b_Scopes_bind 39 = .ok (.putfield 18, 3) := by decide +kernel
theorem d_Scopes_bind_42 : decode b_Scopes_bind 42 = .ok (.aload_n 0, 1) := by decide +kernel
theorem d_Scopes_bind_43 : decode b_Scopes_bind 43 = .ok (.getfield 18, 3) := by decide +kernel
theorem d_Scopes_bind_46 : decode b_Scopes_bind 46 = .ok (.iconst 1, 1) := by decide +kernel
theorem d_Scopes_bind_47 : decode b_Scopes_bind 47 = .ok (.isub, 1) := by decide +kernel
theorem d_Scopes_bind_48 : decode b_Scopes_bind 48 = .ok (.ireturn, 1) := by decide +kernel
def f_Scopes_bind (S_top : Int) (S_bound : Int → Int) (S_outer : Int → Int) (p1 : Int) (p2 : Int) : Option (Int × Int × (Int → Int) × (Int → Int)) :=
  if jr2 S_top 3000 = true then (if S_top < 3000 then (
   if jix S_top 3000 = true then (
    if jix S_top 3000 = true then (
     some (((S_top + 1) - 1), (S_top + 1), (upZ S_bound S_top p1), (upZ S_outer S_top p2))) else none) else none) else (
   some ((-1), S_top, S_bound, S_outer))) else none
set_option maxHeartbeats 4000000 in
set_option maxRecDepth 100000 in
theorem c_Scopes_bind {l : Launch} {D : va_G} {cI cL cB : ClassId} {ad : Nat → Nat} {S_top : Int} {S_bound : Int → Int} {S_outer : Int → Int} {p1 : Int} {p2 : Int} {out : Int × Int × (Int → Int) × (Int → Int)} (h : f_Scopes_bind S_top S_bound S_outer p1 p2 = some out) : CT jF0 false l D [(cI, .int), (cL, .long), (cB, .byte)] y_Scopes_bind w_Scopes_bind ({ frames := 0, cells := 0, slots := 0, locals := 0 } : Room) [.ref (ad 28), .int (zI p1), .int (zI p2)] [(ad 28, .inr (8, [.ref (ad 29), .ref (ad 30), .int (zI S_top)])), (ad 29, .inl (cI, 3000, .inl (zA S_bound))), (ad 30, .inl (cI, 3000, .inl (zA S_outer)))] (some (.int (zI out.1))) [(ad 28, .inr (8, [.ref (ad 29), .ref (ad 30), .int (zI (out.2.1))])), (ad 29, .inl (cI, 3000, .inl (zA (out.2.2.1)))), (ad 30, .inl (cI, 3000, .inl (zA (out.2.2.2))))] 0 0 := by
  refine CT_of_J (cc := b_Scopes_bind) (maxL := 3) (ret := (some .int)) jF0_k (plainFor_of_name (by decide)) rfl (Nat.le_of_ble_eq_true rfl) ?_
  intro K hKl hKD X E
  subst hKl; subst hKD
  unfold f_Scopes_bind at h
  refine J_aload_n X d_Scopes_bind_0 rfl 0 rfl ?_
  refine J_get X (j_in in_Scopes) 0 rfl rfl 2 (by decide) (j_m own_Scopes_bind (by decide +kernel)) rfl d_Scopes_bind_1 ?_
  refine J_sipush X d_Scopes_bind_4 (by decide) ?_
  refine J_icmp_lt (tgt := 12) X d_Scopes_bind_7 (by decide) h (fun c1 h => ?_) (fun c1 h => ?_)
  · refine J_aload_n X d_Scopes_bind_12 rfl 0 rfl ?_
    refine J_get X (j_in in_Scopes) 0 rfl rfl 0 (by decide) (j_m own_Scopes_bind (by decide +kernel)) rfl d_Scopes_bind_13 ?_
    refine J_aload_n X d_Scopes_bind_16 rfl 0 rfl ?_
    refine J_get X (j_in in_Scopes) 0 rfl rfl 2 (by decide) (j_m own_Scopes_bind (by decide +kernel)) rfl d_Scopes_bind_17 ?_
    refine J_iload_n X d_Scopes_bind_20 rfl 1 rfl ?_
    obtain ⟨g2, h⟩ := wk_g h
    refine J_iast (ws' := [(ad 28, .inr (8, [.ref (ad 29), .ref (ad 30), .int (zI S_top)])), (ad 29, .inl (cI, 3000, .inl (zA (upZ S_bound S_top p1)))), (ad 30, .inl (cI, 3000, .inl (zA S_outer)))]) X 1 0 rfl rfl g2 d_Scopes_bind_21 rfl ?_
    refine J_aload_n X d_Scopes_bind_22 rfl 0 rfl ?_
    refine J_get X (j_in in_Scopes) 0 rfl rfl 1 (by decide) (j_m own_Scopes_bind (by decide +kernel)) rfl d_Scopes_bind_23 ?_
    refine J_aload_n X d_Scopes_bind_26 rfl 0 rfl ?_
    refine J_get X (j_in in_Scopes) 0 rfl rfl 2 (by decide) (j_m own_Scopes_bind (by decide +kernel)) rfl d_Scopes_bind_27 ?_
    refine J_iload_n X d_Scopes_bind_30 rfl 2 rfl ?_
    obtain ⟨g3, h⟩ := wk_g h
    refine J_iast (ws' := [(ad 28, .inr (8, [.ref (ad 29), .ref (ad 30), .int (zI S_top)])), (ad 29, .inl (cI, 3000, .inl (zA (upZ S_bound S_top p1)))), (ad 30, .inl (cI, 3000, .inl (zA (upZ S_outer S_top p2))))]) X 2 0 rfl rfl g3 d_Scopes_bind_31 rfl ?_
    refine J_aload_n X d_Scopes_bind_32 rfl 0 rfl ?_
    refine J_dup X d_Scopes_bind_33 rfl ?_
    refine J_get X (j_in in_Scopes) 0 rfl rfl 2 (by decide) (j_m own_Scopes_bind (by decide +kernel)) rfl d_Scopes_bind_34 ?_
    refine J_iconst X d_Scopes_bind_37 ?_
    refine J_iadd X d_Scopes_bind_38 ?_
    refine J_put (ws' := [(ad 28, .inr (8, [.ref (ad 29), .ref (ad 30), .int (zI (S_top + 1))])), (ad 29, .inl (cI, 3000, .inl (zA (upZ S_bound S_top p1)))), (ad 30, .inl (cI, 3000, .inl (zA (upZ S_outer S_top p2))))]) X (j_in in_Scopes) ty_Scopes tok_Scopes nm_Scopes 0 rfl rfl 2 (by decide) (j_m own_Scopes_bind (by decide +kernel)) rfl rfl rfl (Nat.le_of_ble_eq_true rfl) d_Scopes_bind_39 rfl ?_
    refine J_aload_n X d_Scopes_bind_42 rfl 0 rfl ?_
    refine J_get X (j_in in_Scopes) 0 rfl rfl 2 (by decide) (j_m own_Scopes_bind (by decide +kernel)) rfl d_Scopes_bind_43 ?_
    refine J_iconst X d_Scopes_bind_46 ?_
    refine J_isub X d_Scopes_bind_47 ?_
    cases h
    exact J_ret E ⟨_, rfl, rfl⟩ d_Scopes_bind_48 (Nat.le_refl _) (Nat.le_refl _) rfl
  · refine J_iconst X d_Scopes_bind_10 ?_
    cases h
    exact J_ret E ⟨_, rfl, rfl⟩ d_Scopes_bind_11 (Nat.le_refl _) (Nat.le_refl _) rfl

theorem d_Scopes_has_0 : decode b_Scopes_has 0 = .ok (.iload_n 1, 1) := by decide +kernel
theorem d_Scopes_has_1 : decode b_Scopes_has 1 = .ok (.ifCond .lt 15, 3) := by decide +kernel
theorem d_Scopes_has_4 : decode b_Scopes_has 4 = .ok (.iload_n 1, 1) := by decide +kernel
theorem d_Scopes_has_5 : decode b_Scopes_has 5 = .ok (.aload_n 0, 1) := by decide +kernel
theorem d_Scopes_has_6 : decode b_Scopes_has 6 = .ok (.getfield 18, 3) := by decide +kernel
theorem d_Scopes_has_9 : decode b_Scopes_has 9 = .ok (.if_icmp .ge 7, 3) := by decide +kernel
theorem d_Scopes_has_12 : decode b_Scopes_has 12 = .ok (.iconst 1, 1) := by decide +kernel
theorem d_Scopes_has_13 : decode b_Scopes_has 13 = .ok (.goto 4, 3) := by decide +kernel
theorem d_Scopes_has_16 : decode b_Scopes_has 16 = .ok (.iconst 0, 1) := by decide +kernel
theorem d_Scopes_has_17 : decode b_Scopes_has 17 = .ok (.ireturn, 1) := by decide +kernel
def f_Scopes_has (S_top : Int) (p1 : Int) : Option (Int) :=
  if rI p1 = true then (if p1 < 0 then (
   some 0) else (
   if jr2 p1 S_top = true then (if S_top ≤ p1 then (
    some 0) else (
    some 1)) else none)) else none
set_option maxHeartbeats 4000000 in
set_option maxRecDepth 100000 in
theorem c_Scopes_has {l : Launch} {D : va_G} {cI cL cB : ClassId} {ad : Nat → Nat} {S_top : Int} {p1 : Int} {out : Int} (h : f_Scopes_has S_top p1 = some out) : CT jF0 true l D [(cI, .int), (cL, .long), (cB, .byte)] y_Scopes_has w_Scopes_has ({ frames := 0, cells := 0, slots := 0, locals := 0 } : Room) [.ref (ad 28), .int (zI p1)] [(ad 28, .inr (8, [.ref (ad 29), .ref (ad 30), .int (zI S_top)]))] (some (.int (zI out))) [(ad 28, .inr (8, [.ref (ad 29), .ref (ad 30), .int (zI S_top)]))] 0 0 := by
  refine CT_of_J (cc := b_Scopes_has) (maxL := 2) (ret := (some .boolean)) jF0_k (plainFor_of_name (by decide)) rfl (Nat.le_of_ble_eq_true rfl) ?_
  intro K hKl hKD X E
  subst hKl; subst hKD
  unfold f_Scopes_has at h
  refine J_iload_n X d_Scopes_has_0 rfl 1 rfl ?_
  refine J_if_lt (tgt := 16) X d_Scopes_has_1 (by decide) h (fun c1 h => ?_) (fun c1 h => ?_)
  · refine J_iconst X d_Scopes_has_16 ?_
    cases h
    exact J_ret E ⟨_, rfl, j_bool (Or.inl rfl)⟩ d_Scopes_has_17 (Nat.le_refl _) (Nat.le_refl _) rfl
  · refine J_iload_n X d_Scopes_has_4 rfl 1 rfl ?_
    refine J_aload_n X d_Scopes_has_5 rfl 0 rfl ?_
    refine J_get X (j_in in_Scopes) 0 rfl rfl 2 (by decide) (j_m own_Scopes_has (by decide +kernel)) rfl d_Scopes_has_6 ?_
    refine J_icmp_ge (tgt := 16) X d_Scopes_has_9 (by decide) h (fun c2 h => ?_) (fun c2 h => ?_)
    · refine J_iconst X d_Scopes_has_16 ?_
      cases h
      exact J_ret E ⟨_, rfl, j_bool (Or.inl rfl)⟩ d_Scopes_has_17 (Nat.le_refl _) (Nat.le_refl _) rfl
    · refine J_iconst X d_Scopes_has_12 ?_
      refine J_goto (tgt := 17) X d_Scopes_has_13 (by decide) ?_
      cases h
      exact J_ret E ⟨_, rfl, j_bool (Or.inr rfl)⟩ d_Scopes_has_17 (Nat.le_refl _) (Nat.le_refl _) rfl

theorem d_Scopes_find_0 : decode b_Scopes_find 0 = .ok (.iload_n 1, 1) := by decide +kernel
theorem d_Scopes_find_1 : decode b_Scopes_find 1 = .ok (.istore 4, 2) := by decide +kernel
theorem d_Scopes_find_3 : decode b_Scopes_find 3 = .ok (.lload_n 2, 1) := by decide +kernel
theorem d_Scopes_find_4 : decode b_Scopes_find 4 = .ok (.lstore 5, 2) := by decide +kernel
theorem d_Scopes_find_6 : decode b_Scopes_find 6 = .ok (.lload 5, 2) := by decide +kernel
theorem d_Scopes_find_8 : decode b_Scopes_find 8 = .ok (.lconst 1, 1) := by decide +kernel
theorem d_Scopes_find_9 : decode b_Scopes_find 9 = .ok (.lcmp, 1) := by decide +kernel
theorem d_Scopes_find_10 : decode b_Scopes_find 10 = .ok (.ifCond .le 30, 3) := by decide +kernel
theorem d_Scopes_find_13 : decode b_Scopes_find 13 = .ok (.aload_n 0, 1) := by decide +kernel
theorem d_Scopes_find_14 : decode b_Scopes_find 14 = .ok (.iload 4, 2) := by decide +kernel
theorem d_Scopes_find_16 : decode b_Scopes_find 16 = .ok (.invokevirtual 22, 3) := by decide +kernel
theorem d_Scopes_find_19 : decode b_Scopes_find 19 = .ok (.ifCond .eq 21, 3) := by decide +kernel
theorem d_Scopes_find_22 : decode b_Scopes_find 22 = .ok (.aload_n 0, 1) := by decide +kernel
theorem d_Scopes_find_23 : decode b_Scopes_find 23 = .ok (.getfield 15, 3) := by decide +kernel
theorem d_Scopes_find_26 : decode b_Scopes_find 26 = .ok (.iload 4, 2) := by decide +kernel
theorem d_Scopes_find_28 : decode b_Scopes_find 28 = .ok (.iaload, 1) := by decide +kernel
theorem d_Scopes_find_29 : decode b_Scopes_find 29 = .ok (.istore 4, 2) := by decide +kernel
theorem d_Scopes_find_31 : decode b_Scopes_find 31 = .ok (.lload 5, 2) := by decide +kernel
theorem d_Scopes_find_33 : decode b_Scopes_find 33 = .ok (.lconst 1, 1) := by decide +kernel
theorem d_Scopes_find_34 : decode b_Scopes_find 34 = .ok (.lsub, 1) := by decide +kernel
theorem d_Scopes_find_35 : decode b_Scopes_find 35 = .ok (.lstore 5, 2) := by decide +kernel
theorem d_Scopes_find_37 : decode b_Scopes_find 37 = .ok (.goto (-31), 3) := by decide +kernel
theorem d_Scopes_find_40 : decode b_Scopes_find 40 = .ok (.aload_n 0, 1) := by decide +kernel
theorem d_Scopes_find_41 : decode b_Scopes_find 41 = .ok (.iload 4, 2) := by decide +kernel
theorem d_Scopes_find_43 : decode b_Scopes_find 43 = .ok (.invokevirtual 22, 3) := by decide +kernel
theorem d_Scopes_find_46 : decode b_Scopes_find 46 = .ok (.ifCond .eq 13, 3) := by decide +kernel
theorem d_Scopes_find_49 : decode b_Scopes_find 49 = .ok (.aload_n 0, 1) := by decide +kernel
theorem d_Scopes_find_50 : decode b_Scopes_find 50 = .ok (.getfield 9, 3) := by decide +kernel
theorem d_Scopes_find_53 : decode b_Scopes_find 53 = .ok (.iload 4, 2) := by decide +kernel
theorem d_Scopes_find_55 : decode b_Scopes_find 55 = .ok (.iaload, 1) := by decide +kernel
theorem d_Scopes_find_56 : decode b_Scopes_find 56 = .ok (.goto 4, 3) := by decide +kernel
theorem d_Scopes_find_59 : decode b_Scopes_find 59 = .ok (.iconst (-1), 1) := by decide +kernel
theorem d_Scopes_find_60 : decode b_Scopes_find 60 = .ok (.ireturn, 1) := by decide +kernel
def f_Scopes_find_L6 (S_top : Int) (S_outer : Int → Int) (x1 : Int) (x2 : Int) : Nat → Int → Int → Option (Int × Int)
  | 0, _, _ => none
  | n + 1, x4, x5 =>
    if jl2 x5 1 = true then (if x5 ≤ 1 then (
     some (x4, x5)) else (
     Option.bind (f_Scopes_has S_top x4) (fun r9 =>
      if rI r9 = true then (if r9 = 0 then (
       some (x4, x5)) else (
       if jix x4 3000 = true then (
        f_Scopes_find_L6 S_top S_outer x1 x2 n (S_outer x4) (x5 - 1)) else none)) else none))) else none
def f_Scopes_find (N : Nat) (S_top : Int) (S_bound : Int → Int) (S_outer : Int → Int) (p1 : Int) (p2 : Int) : Option (Int) :=
  ob2 (f_Scopes_find_L6 S_top S_outer p1 p2 N p1 p2) (fun x4_1 x5_2 =>
   Option.bind (f_Scopes_has S_top x4_1) (fun r4 =>
    if rI r4 = true then (if r4 = 0 then (
     some (-1)) else (
     if jix x4_1 3000 = true then (
      some (S_bound x4_1)) else none)) else none))
set_option maxHeartbeats 4000000 in
set_option maxRecDepth 100000 in
theorem k_Scopes_find_L6 {K : jK} {cI cL cB : ClassId} {ad : Nat → Nat} {S_top : Int} {S_outer : Int → Int} {x1 : Int} {x2 : Int} {S_bound : Int → Int} {out : Int × Int} (X : jX jF0 K 7 b_Scopes_find w_Scopes_find R_Scopes [(cI, .int), (cL, .long), (cB, .byte)]) : ∀ (n : Nat) (x4 : Int) (x5 : Int), f_Scopes_find_L6 S_top S_outer x1 x2 n x4 x5 = some out → J K 7 ({ frames := 1, cells := 0, slots := 0, locals := 21 } : Room) true 0 0 [(ad 28, .inr (8, [.ref (ad 29), .ref (ad 30), .int (zI S_top)])), (ad 29, .inl (cI, 3000, .inl (zA S_bound))), (ad 30, .inl (cI, 3000, .inl (zA S_outer)))] [(0, .ref (ad 28)), (1, .int (zI x1)), (2, .long (zL x2)), (4, .int (zI (out.1))), (5, .long (zL (out.2)))] [] 40 → J K 7 ({ frames := 1, cells := 0, slots := 0, locals := 21 } : Room) true 0 0 [(ad 28, .inr (8, [.ref (ad 29), .ref (ad 30), .int (zI S_top)])), (ad 29, .inl (cI, 3000, .inl (zA S_bound))), (ad 30, .inl (cI, 3000, .inl (zA S_outer)))] [(0, .ref (ad 28)), (1, .int (zI x1)), (2, .long (zL x2)), (4, .int (zI x4)), (5, .long (zL x5))] [] 6 := by
  intro n
  induction n with
  | zero =>
    intro x4 x5 h hk
    cases h
  | succ n ih =>
    intro x4 x5 h hk
    unfold f_Scopes_find_L6 at h
    refine J_lload X d_Scopes_find_6 4 rfl ?_
    refine J_lconst (v := 1) X d_Scopes_find_8 (by decide) ?_
    refine J_lc_le (tgt := 40) X d_Scopes_find_9 d_Scopes_find_10 (by decide) h (fun c8 h => ?_) (fun c8 h => ?_)
    · cases h
      refine J_lv (lv' := [(0, .ref (ad 28)), (1, .int (zI x1)), (2, .long (zL x2)), (4, .int (zI x4)), (5, .long (zL x5))]) [0, 1, 2, 3, 4] rfl ?_
      exact hk
    · refine J_aload_n X d_Scopes_find_13 rfl 0 rfl ?_
      refine J_iload X d_Scopes_find_14 3 rfl ?_
      obtain ⟨r9, q10, h⟩ := wk_b h
      refine J_afterP (jrunV X (c_Scopes_has (ad := ad) q10) jF0_k (fun _ _ _ _ => trivial) (jgV own_Scopes_find (by decide +kernel)) rfl rfl rfl pd_Scopes_has (by decide) [0] rfl (by decide) 0 8 rfl rfl rfl rfl (Nat.le_of_ble_eq_true rfl) d_Scopes_find_16 (by decide)) ?_
      refine J_if_eq (tgt := 40) X d_Scopes_find_19 (by decide) h (fun c11 h => ?_) (fun c11 h => ?_)
      · cases h
        refine J_lv (lv' := [(0, .ref (ad 28)), (1, .int (zI x1)), (2, .long (zL x2)), (4, .int (zI x4)), (5, .long (zL x5))]) [0, 1, 2, 3, 4] rfl ?_
        exact hk
      · refine J_aload_n X d_Scopes_find_22 rfl 0 rfl ?_
        refine J_get X (j_in in_Scopes) 0 rfl rfl 1 (by decide) (j_m own_Scopes_find (by decide +kernel)) rfl d_Scopes_find_23 ?_
        refine J_iload X d_Scopes_find_26 3 rfl ?_
        obtain ⟨g12, h⟩ := wk_g h
        refine J_iald X 2 0 rfl rfl g12 d_Scopes_find_28 ?_
        refine J_istore (lv' := [(4, .int (zI (S_outer x4))), (0, .ref (ad 28)), (1, .int (zI x1)), (2, .long (zL x2)), (5, .long (zL x5))]) X d_Scopes_find_29 (by decide) rfl ?_
        refine J_lload X d_Scopes_find_31 4 rfl ?_
        refine J_lconst (v := 1) X d_Scopes_find_33 (by decide) ?_
        refine J_lsub X d_Scopes_find_34 ?_
        refine J_lstore (lv' := [(5, .long (zL (x5 - 1))), (4, .int (zI (S_outer x4))), (0, .ref (ad 28)), (1, .int (zI x1)), (2, .long (zL x2))]) X d_Scopes_find_35 (by decide) rfl ?_
        refine J_goto (tgt := 6) X d_Scopes_find_37 (by decide) ?_
        refine J_lv (lv' := [(0, .ref (ad 28)), (1, .int (zI x1)), (2, .long (zL x2)), (4, .int (zI (S_outer x4))), (5, .long (zL (x5 - 1)))]) [2, 3, 4, 1, 0] rfl ?_
        exact ih _ _ h hk
set_option maxHeartbeats 4000000 in
set_option maxRecDepth 100000 in
theorem c_Scopes_find {l : Launch} {D : va_G} {cI cL cB : ClassId} {ad : Nat → Nat} {N : Nat} {S_top : Int} {S_bound : Int → Int} {S_outer : Int → Int} {p1 : Int} {p2 : Int} {out : Int} (h : f_Scopes_find N S_top S_bound S_outer p1 p2 = some out) : CT jF0 true l D [(cI, .int), (cL, .long), (cB, .byte)] y_Scopes_find w_Scopes_find ({ frames := 1, cells := 0, slots := 0, locals := 21 } : Room) [.ref (ad 28), .int (zI p1), .long (zL p2)] [(ad 28, .inr (8, [.ref (ad 29), .ref (ad 30), .int (zI S_top)])), (ad 29, .inl (cI, 3000, .inl (zA S_bound))), (ad 30, .inl (cI, 3000, .inl (zA S_outer)))] (some (.int (zI out))) [(ad 28, .inr (8, [.ref (ad 29), .ref (ad 30), .int (zI S_top)])), (ad 29, .inl (cI, 3000, .inl (zA S_bound))), (ad 30, .inl (cI, 3000, .inl (zA S_outer)))] 0 0 := by
  refine CT_of_J (cc := b_Scopes_find) (maxL := 7) (ret := (some .int)) jF0_k (plainFor_of_name (by decide)) rfl (Nat.le_of_ble_eq_true rfl) ?_
  intro K hKl hKD X E
  subst hKl; subst hKD
  unfold f_Scopes_find at h
  refine J_iload_n X d_Scopes_find_0 rfl 1 rfl ?_
  refine J_istore (lv' := [(4, .int (zI p1)), (0, .ref (ad 28)), (1, .int (zI p1)), (2, .long (zL p2))]) X d_Scopes_find_1 (by decide) rfl ?_
  refine J_lload_n X d_Scopes_find_3 rfl 3 rfl ?_
  refine J_lstore (lv' := [(5, .long (zL p2)), (4, .int (zI p1)), (0, .ref (ad 28)), (1, .int (zI p1)), (2, .long (zL p2))]) X d_Scopes_find_4 (by decide) rfl ?_
  refine J_lv (lv' := [(0, .ref (ad 28)), (1, .int (zI p1)), (2, .long (zL p2)), (4, .int (zI p1)), (5, .long (zL p2))]) [2, 3, 4, 1, 0] rfl ?_
  obtain ⟨x4_1, x5_2, q3, h⟩ := wk_b2 h
  refine k_Scopes_find_L6 X _ _ _ q3 ?_
  refine J_aload_n X d_Scopes_find_40 rfl 0 rfl ?_
  refine J_iload X d_Scopes_find_41 3 rfl ?_
  obtain ⟨r4, q5, h⟩ := wk_b h
  refine J_afterP (jrunV X (c_Scopes_has (ad := ad) q5) jF0_k (fun _ _ _ _ => trivial) (jgV own_Scopes_find (by decide +kernel)) rfl rfl rfl pd_Scopes_has (by decide) [0] rfl (by decide) 0 8 rfl rfl rfl rfl (Nat.le_of_ble_eq_true rfl) d_Scopes_find_43 (by decide)) ?_
  refine J_if_eq (tgt := 59) X d_Scopes_find_46 (by decide) h (fun c6 h => ?_) (fun c6 h => ?_)
  · refine J_iconst X d_Scopes_find_59 ?_
    cases h
    exact J_ret E ⟨_, rfl, rfl⟩ d_Scopes_find_60 (Nat.le_refl _) (Nat.le_refl _) rfl
  · refine J_aload_n X d_Scopes_find_49 rfl 0 rfl ?_
    refine J_get X (j_in in_Scopes) 0 rfl rfl 0 (by decide) (j_m own_Scopes_find (by decide +kernel)) rfl d_Scopes_find_50 ?_
    refine J_iload X d_Scopes_find_53 3 rfl ?_
    obtain ⟨g7, h⟩ := wk_g h
    refine J_iald X 1 0 rfl rfl g7 d_Scopes_find_55 ?_
    refine J_goto (tgt := 60) X d_Scopes_find_56 (by decide) ?_
    cases h
    exact J_ret E ⟨_, rfl, rfl⟩ d_Scopes_find_60 (Nat.le_refl _) (Nat.le_refl _) rfl

theorem d_Waiting_forget_0 : decode b_Waiting_forget 0 = .ok (.aload_n 0, 1) := by decide +kernel
theorem d_Waiting_forget_1 : decode b_Waiting_forget 1 = .ok (.iconst 0, 1) := by decide +kernel
theorem d_Waiting_forget_2 : decode b_Waiting_forget 2 = .ok (.putfield 21, 3) := by decide +kernel
theorem d_Waiting_forget_5 : decode b_Waiting_forget 5 = .ok (.aload_n 0, 1) := by decide +kernel
theorem d_Waiting_forget_6 : decode b_Waiting_forget 6 = .ok (.iconst 0, 1) := by decide +kernel
theorem d_Waiting_forget_7 : decode b_Waiting_forget 7 = .ok (.putfield 25, 3) := by decide +kernel
theorem d_Waiting_forget_10 : decode b_Waiting_forget 10 = .ok (.return_, 1) := by decide +kernel
def f_Waiting_forget (W_depth : Int) (W_most : Int) : Option (Int × Int) :=
  some (0, 0)
set_option maxHeartbeats 4000000 in
set_option maxRecDepth 100000 in
theorem c_Waiting_forget {l : Launch} {D : va_G} {cI cL cB : ClassId} {ad : Nat → Nat} {W_depth : Int} {W_most : Int} {out : Int × Int} (h : f_Waiting_forget W_depth W_most = some out) : CT jF0 false l D [(cI, .int), (cL, .long), (cB, .byte)] y_Waiting_forget w_Waiting_forget ({ frames := 0, cells := 0, slots := 0, locals := 0 } : Room) [.ref (ad 24)] [(ad 24, .inr (7, [.ref (ad 25), .ref (ad 26), .ref (ad 27), .int (zI W_depth), .int (zI W_most)]))] none [(ad 24, .inr (7, [.ref (ad 25), .ref (ad 26), .ref (ad 27), .int (zI (out.1)), .int (zI (out.2))]))] 0 0 := by
  refine CT_of_J (cc := b_Waiting_forget) (maxL := 1) (ret := none) jF0_k (plainFor_of_name (by decide)) rfl (Nat.le_of_ble_eq_true rfl) ?_
  intro K hKl hKD X E
  subst hKl; subst hKD
  unfold f_Waiting_forget at h
  refine J_aload_n X d_Waiting_forget_0 rfl 0 rfl ?_
  refine J_iconst X d_Waiting_forget_1 ?_
  refine J_put (ws' := [(ad 24, .inr (7, [.ref (ad 25), .ref (ad 26), .ref (ad 27), .int (zI 0), .int (zI W_most)]))]) X (j_in in_Waiting) ty_Waiting tok_Waiting nm_Waiting 0 rfl rfl 3 (by decide) (j_m own_Waiting_forget (by decide +kernel)) rfl rfl rfl (Nat.le_of_ble_eq_true rfl) d_Waiting_forget_2 rfl ?_
  refine J_aload_n X d_Waiting_forget_5 rfl 0 rfl ?_
  refine J_iconst X d_Waiting_forget_6 ?_
  refine J_put (ws' := [(ad 24, .inr (7, [.ref (ad 25), .ref (ad 26), .ref (ad 27), .int (zI 0), .int (zI 0)]))]) X (j_in in_Waiting) ty_Waiting tok_Waiting nm_Waiting 0 rfl rfl 4 (by decide) (j_m own_Waiting_forget (by decide +kernel)) rfl rfl rfl (Nat.le_of_ble_eq_true rfl) d_Waiting_forget_7 rfl ?_
  cases h
  exact J_ret E rfl d_Waiting_forget_10 (Nat.le_refl _) (Nat.le_refl _) rfl

theorem d_Waiting_most_0 : decode b_Waiting_most 0 = .ok (.aload_n 0, 1) := by decide +kernel
theorem d_Waiting_most_1 : decode b_Waiting_most 1 = .ok (.getfield 25, 3) := by decide +kernel
theorem d_Waiting_most_4 : decode b_Waiting_most 4 = .ok (.ireturn, 1) := by decide +kernel
def f_Waiting_most (W_most : Int) : Option (Int) :=
  some W_most
set_option maxHeartbeats 4000000 in
set_option maxRecDepth 100000 in
theorem c_Waiting_most {l : Launch} {D : va_G} {cI cL cB : ClassId} {ad : Nat → Nat} {W_depth : Int} {W_most : Int} {out : Int} (h : f_Waiting_most W_most = some out) : CT jF0 true l D [(cI, .int), (cL, .long), (cB, .byte)] y_Waiting_most w_Waiting_most ({ frames := 0, cells := 0, slots := 0, locals := 0 } : Room) [.ref (ad 24)] [(ad 24, .inr (7, [.ref (ad 25), .ref (ad 26), .ref (ad 27), .int (zI W_depth), .int (zI W_most)]))] (some (.int (zI out))) [(ad 24, .inr (7, [.ref (ad 25), .ref (ad 26), .ref (ad 27), .int (zI W_depth), .int (zI W_most)]))] 0 0 := by
  refine CT_of_J (cc := b_Waiting_most) (maxL := 1) (ret := (some .int)) jF0_k (plainFor_of_name (by decide)) rfl (Nat.le_of_ble_eq_true rfl) ?_
  intro K hKl hKD X E
  subst hKl; subst hKD
  unfold f_Waiting_most at h
  refine J_aload_n X d_Waiting_most_0 rfl 0 rfl ?_
  refine J_get X (j_in in_Waiting) 0 rfl rfl 4 (by decide) (j_m own_Waiting_most (by decide +kernel)) rfl d_Waiting_most_1 ?_
  cases h
  exact J_ret E ⟨_, rfl, rfl⟩ d_Waiting_most_4 (Nat.le_refl _) (Nat.le_refl _) rfl

theorem d_Waiting_isEmpty_0 : decode b_Waiting_isEmpty 0 = .ok (.aload_n 0, 1) := by decide +kernel
theorem d_Waiting_isEmpty_1 : decode b_Waiting_isEmpty 1 = .ok (.getfield 21, 3) := by decide +kernel
theorem d_Waiting_isEmpty_4 : decode b_Waiting_isEmpty 4 = .ok (.ifCond .ne 7, 3) := by decide +kernel
theorem d_Waiting_isEmpty_7 : decode b_Waiting_isEmpty 7 = .ok (.iconst 1, 1) := by decide +kernel
theorem d_Waiting_isEmpty_8 : decode b_Waiting_isEmpty 8 = .ok (.goto 4, 3) := by decide +kernel
theorem d_Waiting_isEmpty_11 : decode b_Waiting_isEmpty 11 = .ok (.iconst 0, 1) := by decide +kernel
theorem d_Waiting_isEmpty_12 : decode b_Waiting_isEmpty 12 = .ok (.ireturn, 1) := by decide +kernel
def f_Waiting_isEmpty (W_depth : Int) : Option (Int) :=
  if rI W_depth = true then (if W_depth = 0 then (
   some 1) else (
   some 0)) else none
set_option maxHeartbeats 4000000 in
set_option maxRecDepth 100000 in
theorem c_Waiting_isEmpty {l : Launch} {D : va_G} {cI cL cB : ClassId} {ad : Nat → Nat} {W_depth : Int} {W_most : Int} {out : Int} (h : f_Waiting_isEmpty W_depth = some out) : CT jF0 true l D [(cI, .int), (cL, .long), (cB, .byte)] y_Waiting_isEmpty w_Waiting_isEmpty ({ frames := 0, cells := 0, slots := 0, locals := 0 } : Room) [.ref (ad 24)] [(ad 24, .inr (7, [.ref (ad 25), .ref (ad 26), .ref (ad 27), .int (zI W_depth), .int (zI W_most)]))] (some (.int (zI out))) [(ad 24, .inr (7, [.ref (ad 25), .ref (ad 26), .ref (ad 27), .int (zI W_depth), .int (zI W_most)]))] 0 0 := by
  refine CT_of_J (cc := b_Waiting_isEmpty) (maxL := 1) (ret := (some .boolean)) jF0_k (plainFor_of_name (by decide)) rfl (Nat.le_of_ble_eq_true rfl) ?_
  intro K hKl hKD X E
  subst hKl; subst hKD
  unfold f_Waiting_isEmpty at h
  refine J_aload_n X d_Waiting_isEmpty_0 rfl 0 rfl ?_
  refine J_get X (j_in in_Waiting) 0 rfl rfl 3 (by decide) (j_m own_Waiting_isEmpty (by decide +kernel)) rfl d_Waiting_isEmpty_1 ?_
  refine J_if_ne (tgt := 11) X d_Waiting_isEmpty_4 (by decide) h (fun c1 h => ?_) (fun c1 h => ?_)
  · refine J_iconst X d_Waiting_isEmpty_11 ?_
    cases h
    exact J_ret E ⟨_, rfl, j_bool (Or.inl rfl)⟩ d_Waiting_isEmpty_12 (Nat.le_refl _) (Nat.le_refl _) rfl
  · refine J_iconst X d_Waiting_isEmpty_7 ?_
    refine J_goto (tgt := 12) X d_Waiting_isEmpty_8 (by decide) ?_
    cases h
    exact J_ret E ⟨_, rfl, j_bool (Or.inr rfl)⟩ d_Waiting_isEmpty_12 (Nat.le_refl _) (Nat.le_refl _) rfl

theorem d_Waiting_push_0 : decode b_Waiting_push 0 = .ok (.aload_n 0, 1) := by decide +kernel
theorem d_Waiting_push_1 : decode b_Waiting_push 1 = .ok (.getfield 21, 3) := by decide +kernel
theorem d_Waiting_push_4 : decode b_Waiting_push 4 = .ok (.sipush 400, 3) := by decide +kernel
theorem d_Waiting_push_7 : decode b_Waiting_push 7 = .ok (.if_icmp .lt 5, 3) := by decide +kernel
theorem d_Waiting_push_10 : decode b_Waiting_push 10 = .ok (.iconst 0, 1) := by decide +kernel
theorem d_Waiting_push_11 : decode b_Waiting_push 11 = .ok (.ireturn, 1) := by decide +kernel
theorem d_Waiting_push_12 : decode b_Waiting_push 12 = .ok (.aload_n 0, 1) := by decide +kernel
theorem d_Waiting_push_13 : decode b_Waiting_push 13 = .ok (.getfield 9, 3) := by decide +kernel
theorem d_Waiting_push_16 : decode b_Waiting_push 16 = .ok (.aload_n 0, 1) := by decide +kernel
theorem d_Waiting_push_17 : decode b_Waiting_push 17 = .ok (.getfield 21, 3) := by decide +kernel
theorem d_Waiting_push_20 : decode b_Waiting_push 20 = .ok (.iload_n 1, 1) := by decide +kernel
theorem d_Waiting_push_21 : decode b_Waiting_push 21 = .ok (.iastore, 1) := by decide +kernel
theorem d_Waiting_push_22 : decode b_Waiting_push 22 = .ok (.aload_n 0, 1) := by decide +kernel
theorem d_Waiting_push_23 : decode b_Waiting_push 23 = .ok (.getfield 15, 3) := by decide +kernel
theorem d_Waiting_push_26 : decode b_Waiting_push 26 = .ok (.aload_n 0, 1) := by decide +kernel
theorem d_Waiting_push_27 : decode b_Waiting_push 27 = .ok (.getfield 21, 3) := by decide +kernel
theorem d_Waiting_push_30 : decode b_Waiting_push 30 = .ok (.iload_n 2, 1) := by decide +kernel
theorem d_Waiting_push_31 : decode b_Waiting_push 31 = .ok (.iastore, 1) := by decide +kernel
theorem d_Waiting_push_32 : decode b_Waiting_push 32 = .ok (.aload_n 0, 1) := by decide +kernel
theorem d_Waiting_push_33 : decode b_Waiting_push 33 = .ok (.getfield 18, 3) := by decide +kernel
theorem d_Waiting_push_36 : decode b_Waiting_push 36 = .ok (.aload_n 0, 1) := by decide +kernel
theorem d_Waiting_push_37 : decode b_Waiting_push 37 = .ok (.getfield 21, 3) := by decide +kernel
theorem d_Waiting_push_40 : decode b_Waiting_push 40 = .ok (.iconst (-1), 1) := by decide +kernel
theorem d_Waiting_push_41 : decode b_Waiting_push 41 = .ok (.iastore, 1) := by decide +kernel
theorem d_Waiting_push_42 : decode b_Waiting_push 42 = .ok (.aload_n 0, 1) := by decide +kernel
theorem d_Waiting_push_43 : decode b_Waiting_push 43 = .ok (.dup, 1) := by decide +kernel
theorem d_Waiting_push_44 : decode b_Waiting_push 44 = .ok (.getfield 21, 3) := by decide +kernel
theorem d_Waiting_push_47 : decode b_Waiting_push 47 = .ok (.iconst 1, 1) := by decide +kernel
theorem d_Waiting_push_48 : decode b_Waiting_push 48 = .ok (.iadd, 1) := by decide +kernel
theorem d_Waiting_push_49 : decode b_Waiting_push 49 = .ok (.putfield 21, 3) := by decide +kernel
theorem d_Waiting_push_52 : decode b_Waiting_push 52 = .ok (.aload_n 0, 1) := by decide +kernel
theorem d_Waiting_push_53 : decode b_Waiting_push 53 = .ok (.aload_n 0, 1) := by decide +kernel
theorem d_Waiting_push_54 : decode b_Waiting_push 54 = .ok (.getfield 25, 3) := by decide +kernel
theorem d_Waiting_push_57 : decode b_Waiting_push 57 = .ok (.aload_n 0, 1) := by decide +kernel
theorem d_Waiting_push_58 : decode b_Waiting_push 58 = .ok (.getfield 21, 3) := by decide +kernel
theorem d_Waiting_push_61 : decode b_Waiting_push 61 = .ok (.invokestatic 28, 3) := by decide +kernel
theorem d_Waiting_push_64 : decode b_Waiting_push 64 = .ok (.putfield 25, 3) := by decide +kernel
theorem d_Waiting_push_67 : decode b_Waiting_push 67 = .ok (.iconst 1, 1) := by decide +kernel
theorem d_Waiting_push_68 : decode b_Waiting_push 68 = .ok (.ireturn, 1) := by decide +kernel
def f_Waiting_push (W_depth : Int) (W_most : Int) (W_nodes : Int → Int) (W_scopes : Int → Int) (W_functions : Int → Int) (p1 : Int) (p2 : Int) : Option (Int × Int × Int × (Int → Int) × (Int → Int) × (Int → Int)) :=
  if jr2 W_depth 400 = true then (if W_depth < 400 then (
   if jix W_depth 400 = true then (
    if jix W_depth 400 = true then (
     if jix W_depth 400 = true then (
      if jr2 W_most (W_depth + 1) = true then (
       some (1, (W_depth + 1), (max W_most (W_depth + 1)), (upZ W_nodes W_depth p1), (upZ W_scopes W_depth p2), (upZ W_functions W_depth (-1)))) else none) else none) else none) else none) else (
   some (0, W_depth, W_most, W_nodes, W_scopes, W_functions))) else none
set_option maxHeartbeats 4000000 in
set_option maxRecDepth 100000 in
theorem c_Waiting_push {l : Launch} {D : va_G} {cI cL cB : ClassId} {ad : Nat → Nat} {W_depth : Int} {W_most : Int} {W_nodes : Int → Int} {W_scopes : Int → Int} {W_functions : Int → Int} {p1 : Int} {p2 : Int} {out : Int × Int × Int × (Int → Int) × (Int → Int) × (Int → Int)} (h : f_Waiting_push W_depth W_most W_nodes W_scopes W_functions p1 p2 = some out) : CT jF0 false l D [(cI, .int), (cL, .long), (cB, .byte)] y_Waiting_push w_Waiting_push ({ frames := 1, cells := 0, slots := 0, locals := 23 } : Room) [.ref (ad 24), .int (zI p1), .int (zI p2)] [(ad 24, .inr (7, [.ref (ad 25), .ref (ad 26), .ref (ad 27), .int (zI W_depth), .int (zI W_most)])), (ad 25, .inl (cI, 400, .inl (zA W_nodes))), (ad 26, .inl (cI, 400, .inl (zA W_scopes))), (ad 27, .inl (cI, 400, .inl (zA W_functions)))] (some (.int (zI out.1))) [(ad 24, .inr (7, [.ref (ad 25), .ref (ad 26), .ref (ad 27), .int (zI (out.2.1)), .int (zI (out.2.2.1))])), (ad 25, .inl (cI, 400, .inl (zA (out.2.2.2.1)))), (ad 26, .inl (cI, 400, .inl (zA (out.2.2.2.2.1)))), (ad 27, .inl (cI, 400, .inl (zA (out.2.2.2.2.2))))] 0 0 := by
  refine CT_of_J (cc := b_Waiting_push) (maxL := 3) (ret := (some .boolean)) jF0_k (plainFor_of_name (by decide)) rfl (Nat.le_of_ble_eq_true rfl) ?_
  intro K hKl hKD X E
  subst hKl; subst hKD
  unfold f_Waiting_push at h
  refine J_aload_n X d_Waiting_push_0 rfl 0 rfl ?_
  refine J_get X (j_in in_Waiting) 0 rfl rfl 3 (by decide) (j_m own_Waiting_push (by decide +kernel)) rfl d_Waiting_push_1 ?_
  refine J_sipush X d_Waiting_push_4 (by decide) ?_
  refine J_icmp_lt (tgt := 12) X d_Waiting_push_7 (by decide) h (fun c1 h => ?_) (fun c1 h => ?_)
  · refine J_aload_n X d_Waiting_push_12 rfl 0 rfl ?_
    refine J_get X (j_in in_Waiting) 0 rfl rfl 0 (by decide) (j_m own_Waiting_push (by decide +kernel)) rfl d_Waiting_push_13 ?_
    refine J_aload_n X d_Waiting_push_16 rfl 0 rfl ?_
    refine J_get X (j_in in_Waiting) 0 rfl rfl 3 (by decide) (j_m own_Waiting_push (by decide +kernel)) rfl d_Waiting_push_17 ?_
    refine J_iload_n X d_Waiting_push_20 rfl 1 rfl ?_
    obtain ⟨g2, h⟩ := wk_g h
    refine J_iast (ws' := [(ad 24, .inr (7, [.ref (ad 25), .ref (ad 26), .ref (ad 27), .int (zI W_depth), .int (zI W_most)])), (ad 25, .inl (cI, 400, .inl (zA (upZ W_nodes W_depth p1)))), (ad 26, .inl (cI, 400, .inl (zA W_scopes))), (ad 27, .inl (cI, 400, .inl (zA W_functions)))]) X 1 0 rfl rfl g2 d_Waiting_push_21 rfl ?_
    refine J_aload_n X d_Waiting_push_22 rfl 0 rfl ?_
    refine J_get X (j_in in_Waiting) 0 rfl rfl 1 (by decide) (j_m own_Waiting_push (by decide +kernel)) rfl d_Waiting_push_23 ?_
    refine J_aload_n X d_Waiting_push_26 rfl 0 rfl ?_
    refine J_get X (j_in in_Waiting) 0 rfl rfl 3 (by decide) (j_m own_Waiting_push (by decide +kernel)) rfl d_Waiting_push_27 ?_
    refine J_iload_n X d_Waiting_push_30 rfl 2 rfl ?_
    obtain ⟨g3, h⟩ := wk_g h
    refine J_iast (ws' := [(ad 24, .inr (7, [.ref (ad 25), .ref (ad 26), .ref (ad 27), .int (zI W_depth), .int (zI W_most)])), (ad 25, .inl (cI, 400, .inl (zA (upZ W_nodes W_depth p1)))), (ad 26, .inl (cI, 400, .inl (zA (upZ W_scopes W_depth p2)))), (ad 27, .inl (cI, 400, .inl (zA W_functions)))]) X 2 0 rfl rfl g3 d_Waiting_push_31 rfl ?_
    refine J_aload_n X d_Waiting_push_32 rfl 0 rfl ?_
    refine J_get X (j_in in_Waiting) 0 rfl rfl 2 (by decide) (j_m own_Waiting_push (by decide +kernel)) rfl d_Waiting_push_33 ?_
    refine J_aload_n X d_Waiting_push_36 rfl 0 rfl ?_
    refine J_get X (j_in in_Waiting) 0 rfl rfl 3 (by decide) (j_m own_Waiting_push (by decide +kernel)) rfl d_Waiting_push_37 ?_
    refine J_iconst X d_Waiting_push_40 ?_
    obtain ⟨g4, h⟩ := wk_g h
    refine J_iast (ws' := [(ad 24, .inr (7, [.ref (ad 25), .ref (ad 26), .ref (ad 27), .int (zI W_depth), .int (zI W_most)])), (ad 25, .inl (cI, 400, .inl (zA (upZ W_nodes W_depth p1)))), (ad 26, .inl (cI, 400, .inl (zA (upZ W_scopes W_depth p2)))), (ad 27, .inl (cI, 400, .inl (zA (upZ W_functions W_depth (-1)))))]) X 3 0 rfl rfl g4 d_Waiting_push_41 rfl ?_
    refine J_aload_n X d_Waiting_push_42 rfl 0 rfl ?_
    refine J_dup X d_Waiting_push_43 rfl ?_
    refine J_get X (j_in in_Waiting) 0 rfl rfl 3 (by decide) (j_m own_Waiting_push (by decide +kernel)) rfl d_Waiting_push_44 ?_
    refine J_iconst X d_Waiting_push_47 ?_
    refine J_iadd X d_Waiting_push_48 ?_
    refine J_put (ws' := [(ad 24, .inr (7, [.ref (ad 25), .ref (ad 26), .ref (ad 27), .int (zI (W_depth + 1)), .int (zI W_most)])), (ad 25, .inl (cI, 400, .inl (zA (upZ W_nodes W_depth p1)))), (ad 26, .inl (cI, 400, .inl (zA (upZ W_scopes W_depth p2)))), (ad 27, .inl (cI, 400, .inl (zA (upZ W_functions W_depth (-1)))))]) X (j_in in_Waiting) ty_Waiting tok_Waiting nm_Waiting 0 rfl rfl 3 (by decide) (j_m own_Waiting_push (by decide +kernel)) rfl rfl rfl (Nat.le_of_ble_eq_true rfl) d_Waiting_push_49 rfl ?_
    refine J_aload_n X d_Waiting_push_52 rfl 0 rfl ?_
    refine J_aload_n X d_Waiting_push_53 rfl 0 rfl ?_
    refine J_get X (j_in in_Waiting) 0 rfl rfl 4 (by decide) (j_m own_Waiting_push (by decide +kernel)) rfl d_Waiting_push_54 ?_
    refine J_aload_n X d_Waiting_push_57 rfl 0 rfl ?_
    refine J_get X (j_in in_Waiting) 0 rfl rfl 3 (by decide) (j_m own_Waiting_push (by decide +kernel)) rfl d_Waiting_push_58 ?_
    obtain ⟨g5, h⟩ := wk_g h
    refine J_mmax X g5 (j_m own_Waiting_push (by decide +kernel)) (j_m own_Waiting_push (by decide +kernel)) (j_m own_Waiting_push (by decide +kernel)) (j_m own_Waiting_push (by decide +kernel)) (by decide) (Nat.le_of_ble_eq_true rfl) (by decide) (by decide) d_Waiting_push_61 ?_
    refine J_put (ws' := [(ad 24, .inr (7, [.ref (ad 25), .ref (ad 26), .ref (ad 27), .int (zI (W_depth + 1)), .int (zI (max W_most (W_depth + 1)))])), (ad 25, .inl (cI, 400, .inl (zA (upZ W_nodes W_depth p1)))), (ad 26, .inl (cI, 400, .inl (zA (upZ W_scopes W_depth p2)))), (ad 27, .inl (cI, 400, .inl (zA (upZ W_functions W_depth (-1)))))]) X (j_in in_Waiting) ty_Waiting tok_Waiting nm_Waiting 0 rfl rfl 4 (by decide) (j_m own_Waiting_push (by decide +kernel)) rfl rfl rfl (Nat.le_of_ble_eq_true rfl) d_Waiting_push_64 rfl ?_
    refine J_iconst X d_Waiting_push_67 ?_
    cases h
    exact J_ret E ⟨_, rfl, j_bool (Or.inr rfl)⟩ d_Waiting_push_68 (Nat.le_refl _) (Nat.le_refl _) rfl
  · refine J_iconst X d_Waiting_push_10 ?_
    cases h
    exact J_ret E ⟨_, rfl, j_bool (Or.inl rfl)⟩ d_Waiting_push_11 (Nat.le_refl _) (Nat.le_refl _) rfl

theorem d_Waiting_pop_0 : decode b_Waiting_pop 0 = .ok (.aload_n 0, 1) := by decide +kernel
theorem d_Waiting_pop_1 : decode b_Waiting_pop 1 = .ok (.iconst 0, 1) := by decide +kernel
theorem d_Waiting_pop_2 : decode b_Waiting_pop 2 = .ok (.aload_n 0, 1) := by decide +kernel
theorem d_Waiting_pop_3 : decode b_Waiting_pop 3 = .ok (.getfield 21, 3) := by decide +kernel
theorem d_Waiting_pop_6 : decode b_Waiting_pop 6 = .ok (.iconst 1, 1) := by decide +kernel
theorem d_Waiting_pop_7 : decode b_Waiting_pop 7 = .ok (.isub, 1) := by decide +kernel
theorem d_Waiting_pop_8 : decode b_Waiting_pop 8 = .ok (.invokestatic 28, 3) := by decide +kernel
theorem d_Waiting_pop_11 : decode b_Waiting_pop 11 = .ok (.putfield 21, 3) := by decide +kernel
theorem d_Waiting_pop_14 : decode b_Waiting_pop 14 = .ok (.return_, 1) := by decide +kernel
def f_Waiting_pop (W_depth : Int) : Option (Int) :=
  if jr2 0 (W_depth - 1) = true then (
   some (max 0 (W_depth - 1))) else none
set_option maxHeartbeats 4000000 in
set_option maxRecDepth 100000 in
theorem c_Waiting_pop {l : Launch} {D : va_G} {cI cL cB : ClassId} {ad : Nat → Nat} {W_depth : Int} {W_most : Int} {out : Int} (h : f_Waiting_pop W_depth = some out) : CT jF0 false l D [(cI, .int), (cL, .long), (cB, .byte)] y_Waiting_pop w_Waiting_pop ({ frames := 1, cells := 0, slots := 0, locals := 23 } : Room) [.ref (ad 24)] [(ad 24, .inr (7, [.ref (ad 25), .ref (ad 26), .ref (ad 27), .int (zI W_depth), .int (zI W_most)]))] none [(ad 24, .inr (7, [.ref (ad 25), .ref (ad 26), .ref (ad 27), .int (zI out), .int (zI W_most)]))] 0 0 := by
  refine CT_of_J (cc := b_Waiting_pop) (maxL := 1) (ret := none) jF0_k (plainFor_of_name (by decide)) rfl (Nat.le_of_ble_eq_true rfl) ?_
  intro K hKl hKD X E
  subst hKl; subst hKD
  unfold f_Waiting_pop at h
  refine J_aload_n X d_Waiting_pop_0 rfl 0 rfl ?_
  refine J_iconst X d_Waiting_pop_1 ?_
  refine J_aload_n X d_Waiting_pop_2 rfl 0 rfl ?_
  refine J_get X (j_in in_Waiting) 0 rfl rfl 3 (by decide) (j_m own_Waiting_pop (by decide +kernel)) rfl d_Waiting_pop_3 ?_
  refine J_iconst X d_Waiting_pop_6 ?_
  refine J_isub X d_Waiting_pop_7 ?_
  obtain ⟨g1, h⟩ := wk_g h
  refine J_mmax X g1 (j_m own_Waiting_pop (by decide +kernel)) (j_m own_Waiting_pop (by decide +kernel)) (j_m own_Waiting_pop (by decide +kernel)) (j_m own_Waiting_pop (by decide +kernel)) (by decide) (Nat.le_of_ble_eq_true rfl) (by decide) (by decide) d_Waiting_pop_8 ?_
  refine J_put (ws' := [(ad 24, .inr (7, [.ref (ad 25), .ref (ad 26), .ref (ad 27), .int (zI (max 0 (W_depth - 1))), .int (zI W_most)]))]) X (j_in in_Waiting) ty_Waiting tok_Waiting nm_Waiting 0 rfl rfl 3 (by decide) (j_m own_Waiting_pop (by decide +kernel)) rfl rfl rfl (Nat.le_of_ble_eq_true rfl) d_Waiting_pop_11 rfl ?_
  cases h
  exact J_ret E rfl d_Waiting_pop_14 (Nat.le_refl _) (Nat.le_refl _) rfl

theorem d_Waiting_has_0 : decode b_Waiting_has 0 = .ok (.iload_n 1, 1) := by decide +kernel
theorem d_Waiting_has_1 : decode b_Waiting_has 1 = .ok (.ifCond .lt 14, 3) := by decide +kernel
theorem d_Waiting_has_4 : decode b_Waiting_has 4 = .ok (.iload_n 1, 1) := by decide +kernel
theorem d_Waiting_has_5 : decode b_Waiting_has 5 = .ok (.sipush 400, 3) := by decide +kernel
theorem d_Waiting_has_8 : decode b_Waiting_has 8 = .ok (.if_icmp .ge 7, 3) := by decide +kernel
theorem d_Waiting_has_11 : decode b_Waiting_has 11 = .ok (.iconst 1, 1) := by decide +kernel
theorem d_Waiting_has_12 : decode b_Waiting_has 12 = .ok (.goto 4, 3) := by decide +kernel
theorem d_Waiting_has_15 : decode b_Waiting_has 15 = .ok (.iconst 0, 1) := by decide +kernel
theorem d_Waiting_has_16 : decode b_Waiting_has 16 = .ok (.ireturn, 1) := by decide +kernel
def f_Waiting_has (p1 : Int) : Option (Int) :=
  if rI p1 = true then (if p1 < 0 then (
   some 0) else (
   if jr2 p1 400 = true then (if 400 ≤ p1 then (
    some 0) else (
    some 1)) else none)) else none
set_option maxHeartbeats 4000000 in
set_option maxRecDepth 100000 in
theorem c_Waiting_has {l : Launch} {D : va_G} {cI cL cB : ClassId} {ad : Nat → Nat} {W_depth : Int} {W_most : Int} {p1 : Int} {out : Int} (h : f_Waiting_has p1 = some out) : CT jF0 true l D [(cI, .int), (cL, .long), (cB, .byte)] y_Waiting_has w_Waiting_has ({ frames := 0, cells := 0, slots := 0, locals := 0 } : Room) [.ref (ad 24), .int (zI p1)] [(ad 24, .inr (7, [.ref (ad 25), .ref (ad 26), .ref (ad 27), .int (zI W_depth), .int (zI W_most)]))] (some (.int (zI out))) [(ad 24, .inr (7, [.ref (ad 25), .ref (ad 26), .ref (ad 27), .int (zI W_depth), .int (zI W_most)]))] 0 0 := by
  refine CT_of_J (cc := b_Waiting_has) (maxL := 2) (ret := (some .boolean)) jF0_k (plainFor_of_name (by decide)) rfl (Nat.le_of_ble_eq_true rfl) ?_
  intro K hKl hKD X E
  subst hKl; subst hKD
  unfold f_Waiting_has at h
  refine J_iload_n X d_Waiting_has_0 rfl 1 rfl ?_
  refine J_if_lt (tgt := 15) X d_Waiting_has_1 (by decide) h (fun c1 h => ?_) (fun c1 h => ?_)
  · refine J_iconst X d_Waiting_has_15 ?_
    cases h
    exact J_ret E ⟨_, rfl, j_bool (Or.inl rfl)⟩ d_Waiting_has_16 (Nat.le_refl _) (Nat.le_refl _) rfl
  · refine J_iload_n X d_Waiting_has_4 rfl 1 rfl ?_
    refine J_sipush X d_Waiting_has_5 (by decide) ?_
    refine J_icmp_ge (tgt := 15) X d_Waiting_has_8 (by decide) h (fun c2 h => ?_) (fun c2 h => ?_)
    · refine J_iconst X d_Waiting_has_15 ?_
      cases h
      exact J_ret E ⟨_, rfl, j_bool (Or.inl rfl)⟩ d_Waiting_has_16 (Nat.le_refl _) (Nat.le_refl _) rfl
    · refine J_iconst X d_Waiting_has_11 ?_
      refine J_goto (tgt := 16) X d_Waiting_has_12 (by decide) ?_
      cases h
      exact J_ret E ⟨_, rfl, j_bool (Or.inr rfl)⟩ d_Waiting_has_16 (Nat.le_refl _) (Nat.le_refl _) rfl

theorem d_Waiting_lastNode_0 : decode b_Waiting_lastNode 0 = .ok (.aload_n 0, 1) := by decide +kernel
theorem d_Waiting_lastNode_1 : decode b_Waiting_lastNode 1 = .ok (.aload_n 0, 1) := by decide +kernel
theorem d_Waiting_lastNode_2 : decode b_Waiting_lastNode 2 = .ok (.getfield 21, 3) := by decide +kernel
theorem d_Waiting_lastNode_5 : decode b_Waiting_lastNode 5 = .ok (.iconst 1, 1) := by decide +kernel
theorem d_Waiting_lastNode_6 : decode b_Waiting_lastNode 6 = .ok (.isub, 1) := by decide +kernel
theorem d_Waiting_lastNode_7 : decode b_Waiting_lastNode 7 = .ok (.invokevirtual 34, 3) := by decide +kernel
theorem d_Waiting_lastNode_10 : decode b_Waiting_lastNode 10 = .ok (.ifCond .eq 17, 3) := by decide +kernel
theorem d_Waiting_lastNode_13 : decode b_Waiting_lastNode 13 = .ok (.aload_n 0, 1) := by decide +kernel
theorem d_Waiting_lastNode_14 : decode b_Waiting_lastNode 14 = .ok (.getfield 9, 3) := by decide +kernel
theorem d_Waiting_lastNode_17 : decode b_Waiting_lastNode 17 = .ok (.aload_n 0, 1) := by decide +kernel
theorem d_Waiting_lastNode_18 : decode b_Waiting_lastNode 18 = .ok (.getfield 21, 3) := by decide +kernel
theorem d_Waiting_lastNode_21 : decode b_Waiting_lastNode 21 = .ok (.iconst 1, 1) := by decide +kernel
theorem d_Waiting_lastNode_22 : decode b_Waiting_lastNode 22 = .ok (.isub, 1) := by decide +kernel
theorem d_Waiting_lastNode_23 : decode b_Waiting_lastNode 23 = .ok (.iaload, 1) := by decide +kernel
theorem d_Waiting_lastNode_24 : decode b_Waiting_lastNode 24 = .ok (.goto 4, 3) := by decide +kernel
theorem d_Waiting_lastNode_27 : decode b_Waiting_lastNode 27 = .ok (.iconst (-1), 1) := by decide +kernel
theorem d_Waiting_lastNode_28 : decode b_Waiting_lastNode 28 = .ok (.ireturn, 1) := by decide +kernel
def f_Waiting_lastNode (W_depth : Int) (W_nodes : Int → Int) : Option (Int) :=
  Option.bind (f_Waiting_has (W_depth - 1)) (fun r1 =>
   if rI r1 = true then (if r1 = 0 then (
    some (-1)) else (
    if jix (W_depth - 1) 400 = true then (
     some (W_nodes (W_depth - 1))) else none)) else none)
set_option maxHeartbeats 4000000 in
set_option maxRecDepth 100000 in
theorem c_Waiting_lastNode {l : Launch} {D : va_G} {cI cL cB : ClassId} {ad : Nat → Nat} {W_depth : Int} {W_most : Int} {W_nodes : Int → Int} {out : Int} (h : f_Waiting_lastNode W_depth W_nodes = some out) : CT jF0 true l D [(cI, .int), (cL, .long), (cB, .byte)] y_Waiting_lastNode w_Waiting_lastNode ({ frames := 1, cells := 0, slots := 0, locals := 21 } : Room) [.ref (ad 24)] [(ad 24, .inr (7, [.ref (ad 25), .ref (ad 26), .ref (ad 27), .int (zI W_depth), .int (zI W_most)])), (ad 25, .inl (cI, 400, .inl (zA W_nodes)))] (some (.int (zI out))) [(ad 24, .inr (7, [.ref (ad 25), .ref (ad 26), .ref (ad 27), .int (zI W_depth), .int (zI W_most)])), (ad 25, .inl (cI, 400, .inl (zA W_nodes)))] 0 0 := by
  refine CT_of_J (cc := b_Waiting_lastNode) (maxL := 1) (ret := (some .int)) jF0_k (plainFor_of_name (by decide)) rfl (Nat.le_of_ble_eq_true rfl) ?_
  intro K hKl hKD X E
  subst hKl; subst hKD
  unfold f_Waiting_lastNode at h
  refine J_aload_n X d_Waiting_lastNode_0 rfl 0 rfl ?_
  refine J_aload_n X d_Waiting_lastNode_1 rfl 0 rfl ?_
  refine J_get X (j_in in_Waiting) 0 rfl rfl 3 (by decide) (j_m own_Waiting_lastNode (by decide +kernel)) rfl d_Waiting_lastNode_2 ?_
  refine J_iconst X d_Waiting_lastNode_5 ?_
  refine J_isub X d_Waiting_lastNode_6 ?_
  obtain ⟨r1, q2, h⟩ := wk_b h
  refine J_afterP (jrunV X (c_Waiting_has (ad := ad) q2) jF0_k (fun _ _ _ _ => trivial) (jgV own_Waiting_lastNode (by decide +kernel)) rfl rfl rfl pd_Waiting_has (by decide) [0] rfl (by decide) 0 7 rfl rfl rfl rfl (Nat.le_of_ble_eq_true rfl) d_Waiting_lastNode_7 (by decide)) ?_
  refine J_if_eq (tgt := 27) X d_Waiting_lastNode_10 (by decide) h (fun c3 h => ?_) (fun c3 h => ?_)
  · refine J_iconst X d_Waiting_lastNode_27 ?_
    cases h
    exact J_ret E ⟨_, rfl, rfl⟩ d_Waiting_lastNode_28 (Nat.le_refl _) (Nat.le_refl _) rfl
  · refine J_aload_n X d_Waiting_lastNode_13 rfl 0 rfl ?_
    refine J_get X (j_in in_Waiting) 0 rfl rfl 0 (by decide) (j_m own_Waiting_lastNode (by decide +kernel)) rfl d_Waiting_lastNode_14 ?_
    refine J_aload_n X d_Waiting_lastNode_17 rfl 0 rfl ?_
    refine J_get X (j_in in_Waiting) 0 rfl rfl 3 (by decide) (j_m own_Waiting_lastNode (by decide +kernel)) rfl d_Waiting_lastNode_18 ?_
    refine J_iconst X d_Waiting_lastNode_21 ?_
    refine J_isub X d_Waiting_lastNode_22 ?_
    obtain ⟨g4, h⟩ := wk_g h
    refine J_iald X 1 0 rfl rfl g4 d_Waiting_lastNode_23 ?_
    refine J_goto (tgt := 28) X d_Waiting_lastNode_24 (by decide) ?_
    cases h
    exact J_ret E ⟨_, rfl, rfl⟩ d_Waiting_lastNode_28 (Nat.le_refl _) (Nat.le_refl _) rfl

theorem d_Waiting_lastScope_0 : decode b_Waiting_lastScope 0 = .ok (.aload_n 0, 1) := by decide +kernel
theorem d_Waiting_lastScope_1 : decode b_Waiting_lastScope 1 = .ok (.aload_n 0, 1) := by decide +kernel
theorem d_Waiting_lastScope_2 : decode b_Waiting_lastScope 2 = .ok (.getfield 21, 3) := by decide +kernel
theorem d_Waiting_lastScope_5 : decode b_Waiting_lastScope 5 = .ok (.iconst 1, 1) := by decide +kernel
theorem d_Waiting_lastScope_6 : decode b_Waiting_lastScope 6 = .ok (.isub, 1) := by decide +kernel
theorem d_Waiting_lastScope_7 : decode b_Waiting_lastScope 7 = .ok (.invokevirtual 34, 3) := by decide +kernel
theorem d_Waiting_lastScope_10 : decode b_Waiting_lastScope 10 = .ok (.ifCond .eq 17, 3) := by decide +kernel
theorem d_Waiting_lastScope_13 : decode b_Waiting_lastScope 13 = .ok (.aload_n 0, 1) := by decide +kernel
theorem d_Waiting_lastScope_14 : decode b_Waiting_lastScope 14 = .ok (.getfield 15, 3) := by decide +kernel
theorem d_Waiting_lastScope_17 : decode b_Waiting_lastScope 17 = .ok (.aload_n 0, 1) := by decide +kernel
theorem d_Waiting_lastScope_18 : decode b_Waiting_lastScope 18 = .ok (.getfield 21, 3) := by decide +kernel
theorem d_Waiting_lastScope_21 : decode b_Waiting_lastScope 21 = .ok (.iconst 1, 1) := by decide +kernel
theorem d_Waiting_lastScope_22 : decode b_Waiting_lastScope 22 = .ok (.isub, 1) := by decide +kernel
theorem d_Waiting_lastScope_23 : decode b_Waiting_lastScope 23 = .ok (.iaload, 1) := by decide +kernel
theorem d_Waiting_lastScope_24 : decode b_Waiting_lastScope 24 = .ok (.goto 4, 3) := by decide +kernel
theorem d_Waiting_lastScope_27 : decode b_Waiting_lastScope 27 = .ok (.iconst (-1), 1) := by decide +kernel
theorem d_Waiting_lastScope_28 : decode b_Waiting_lastScope 28 = .ok (.ireturn, 1) := by decide +kernel
def f_Waiting_lastScope (W_depth : Int) (W_scopes : Int → Int) : Option (Int) :=
  Option.bind (f_Waiting_has (W_depth - 1)) (fun r1 =>
   if rI r1 = true then (if r1 = 0 then (
    some (-1)) else (
    if jix (W_depth - 1) 400 = true then (
     some (W_scopes (W_depth - 1))) else none)) else none)
set_option maxHeartbeats 4000000 in
set_option maxRecDepth 100000 in
theorem c_Waiting_lastScope {l : Launch} {D : va_G} {cI cL cB : ClassId} {ad : Nat → Nat} {W_depth : Int} {W_most : Int} {W_scopes : Int → Int} {out : Int} (h : f_Waiting_lastScope W_depth W_scopes = some out) : CT jF0 true l D [(cI, .int), (cL, .long), (cB, .byte)] y_Waiting_lastScope w_Waiting_lastScope ({ frames := 1, cells := 0, slots := 0, locals := 21 } : Room) [.ref (ad 24)] [(ad 24, .inr (7, [.ref (ad 25), .ref (ad 26), .ref (ad 27), .int (zI W_depth), .int (zI W_most)])), (ad 26, .inl (cI, 400, .inl (zA W_scopes)))] (some (.int (zI out))) [(ad 24, .inr (7, [.ref (ad 25), .ref (ad 26), .ref (ad 27), .int (zI W_depth), .int (zI W_most)])), (ad 26, .inl (cI, 400, .inl (zA W_scopes)))] 0 0 := by
  refine CT_of_J (cc := b_Waiting_lastScope) (maxL := 1) (ret := (some .int)) jF0_k (plainFor_of_name (by decide)) rfl (Nat.le_of_ble_eq_true rfl) ?_
  intro K hKl hKD X E
  subst hKl; subst hKD
  unfold f_Waiting_lastScope at h
  refine J_aload_n X d_Waiting_lastScope_0 rfl 0 rfl ?_
  refine J_aload_n X d_Waiting_lastScope_1 rfl 0 rfl ?_
  refine J_get X (j_in in_Waiting) 0 rfl rfl 3 (by decide) (j_m own_Waiting_lastScope (by decide +kernel)) rfl d_Waiting_lastScope_2 ?_
  refine J_iconst X d_Waiting_lastScope_5 ?_
  refine J_isub X d_Waiting_lastScope_6 ?_
  obtain ⟨r1, q2, h⟩ := wk_b h
  refine J_afterP (jrunV X (c_Waiting_has (ad := ad) q2) jF0_k (fun _ _ _ _ => trivial) (jgV own_Waiting_lastScope (by decide +kernel)) rfl rfl rfl pd_Waiting_has (by decide) [0] rfl (by decide) 0 7 rfl rfl rfl rfl (Nat.le_of_ble_eq_true rfl) d_Waiting_lastScope_7 (by decide)) ?_
  refine J_if_eq (tgt := 27) X d_Waiting_lastScope_10 (by decide) h (fun c3 h => ?_) (fun c3 h => ?_)
  · refine J_iconst X d_Waiting_lastScope_27 ?_
    cases h
    exact J_ret E ⟨_, rfl, rfl⟩ d_Waiting_lastScope_28 (Nat.le_refl _) (Nat.le_refl _) rfl
  · refine J_aload_n X d_Waiting_lastScope_13 rfl 0 rfl ?_
    refine J_get X (j_in in_Waiting) 0 rfl rfl 1 (by decide) (j_m own_Waiting_lastScope (by decide +kernel)) rfl d_Waiting_lastScope_14 ?_
    refine J_aload_n X d_Waiting_lastScope_17 rfl 0 rfl ?_
    refine J_get X (j_in in_Waiting) 0 rfl rfl 3 (by decide) (j_m own_Waiting_lastScope (by decide +kernel)) rfl d_Waiting_lastScope_18 ?_
    refine J_iconst X d_Waiting_lastScope_21 ?_
    refine J_isub X d_Waiting_lastScope_22 ?_
    obtain ⟨g4, h⟩ := wk_g h
    refine J_iald X 1 0 rfl rfl g4 d_Waiting_lastScope_23 ?_
    refine J_goto (tgt := 28) X d_Waiting_lastScope_24 (by decide) ?_
    cases h
    exact J_ret E ⟨_, rfl, rfl⟩ d_Waiting_lastScope_28 (Nat.le_refl _) (Nat.le_refl _) rfl

theorem d_Waiting_lastFunction_0 : decode b_Waiting_lastFunction 0 = .ok (.aload_n 0, 1) := by decide +kernel
theorem d_Waiting_lastFunction_1 : decode b_Waiting_lastFunction 1 = .ok (.aload_n 0, 1) := by decide +kernel
theorem d_Waiting_lastFunction_2 : decode b_Waiting_lastFunction 2 = .ok (.getfield 21, 3) := by decide +kernel
theorem d_Waiting_lastFunction_5 : decode b_Waiting_lastFunction 5 = .ok (.iconst 1, 1) := by decide +kernel
theorem d_Waiting_lastFunction_6 : decode b_Waiting_lastFunction 6 = .ok (.isub, 1) := by decide +kernel
theorem d_Waiting_lastFunction_7 : decode b_Waiting_lastFunction 7 = .ok (.invokevirtual 34, 3) := by decide +kernel
theorem d_Waiting_lastFunction_10 : decode b_Waiting_lastFunction 10 = .ok (.ifCond .eq 17, 3) := by decide +kernel
theorem d_Waiting_lastFunction_13 : decode b_Waiting_lastFunction 13 = .ok (.aload_n 0, 1) := by decide +kernel
theorem d_Waiting_lastFunction_14 : decode b_Waiting_lastFunction 14 = .ok (.getfield 18, 3) := by decide +kernel
theorem d_Waiting_lastFunction_17 : decode b_Waiting_lastFunction 17 = .ok (.aload_n 0, 1) := by decide +kernel
theorem d_Waiting_lastFunction_18 : decode b_Waiting_lastFunction 18 = .ok (.getfield 21, 3) := by decide +kernel
theorem d_Waiting_lastFunction_21 : decode b_Waiting_lastFunction 21 = .ok (.iconst 1, 1) := by decide +kernel
theorem d_Waiting_lastFunction_22 : decode b_Waiting_lastFunction 22 = .ok (.isub, 1) := by decide +kernel
theorem d_Waiting_lastFunction_23 : decode b_Waiting_lastFunction 23 = .ok (.iaload, 1) := by decide +kernel
theorem d_Waiting_lastFunction_24 : decode b_Waiting_lastFunction 24 = .ok (.goto 4, 3) := by decide +kernel
theorem d_Waiting_lastFunction_27 : decode b_Waiting_lastFunction 27 = .ok (.iconst (-1), 1) := by decide +kernel
theorem d_Waiting_lastFunction_28 : decode b_Waiting_lastFunction 28 = .ok (.ireturn, 1) := by decide +kernel
def f_Waiting_lastFunction (W_depth : Int) (W_functions : Int → Int) : Option (Int) :=
  Option.bind (f_Waiting_has (W_depth - 1)) (fun r1 =>
   if rI r1 = true then (if r1 = 0 then (
    some (-1)) else (
    if jix (W_depth - 1) 400 = true then (
     some (W_functions (W_depth - 1))) else none)) else none)
set_option maxHeartbeats 4000000 in
set_option maxRecDepth 100000 in
theorem c_Waiting_lastFunction {l : Launch} {D : va_G} {cI cL cB : ClassId} {ad : Nat → Nat} {W_depth : Int} {W_most : Int} {W_functions : Int → Int} {out : Int} (h : f_Waiting_lastFunction W_depth W_functions = some out) : CT jF0 true l D [(cI, .int), (cL, .long), (cB, .byte)] y_Waiting_lastFunction w_Waiting_lastFunction ({ frames := 1, cells := 0, slots := 0, locals := 21 } : Room) [.ref (ad 24)] [(ad 24, .inr (7, [.ref (ad 25), .ref (ad 26), .ref (ad 27), .int (zI W_depth), .int (zI W_most)])), (ad 27, .inl (cI, 400, .inl (zA W_functions)))] (some (.int (zI out))) [(ad 24, .inr (7, [.ref (ad 25), .ref (ad 26), .ref (ad 27), .int (zI W_depth), .int (zI W_most)])), (ad 27, .inl (cI, 400, .inl (zA W_functions)))] 0 0 := by
  refine CT_of_J (cc := b_Waiting_lastFunction) (maxL := 1) (ret := (some .int)) jF0_k (plainFor_of_name (by decide)) rfl (Nat.le_of_ble_eq_true rfl) ?_
  intro K hKl hKD X E
  subst hKl; subst hKD
  unfold f_Waiting_lastFunction at h
  refine J_aload_n X d_Waiting_lastFunction_0 rfl 0 rfl ?_
  refine J_aload_n X d_Waiting_lastFunction_1 rfl 0 rfl ?_
  refine J_get X (j_in in_Waiting) 0 rfl rfl 3 (by decide) (j_m own_Waiting_lastFunction (by decide +kernel)) rfl d_Waiting_lastFunction_2 ?_
  refine J_iconst X d_Waiting_lastFunction_5 ?_
  refine J_isub X d_Waiting_lastFunction_6 ?_
  obtain ⟨r1, q2, h⟩ := wk_b h
  refine J_afterP (jrunV X (c_Waiting_has (ad := ad) q2) jF0_k (fun _ _ _ _ => trivial) (jgV own_Waiting_lastFunction (by decide +kernel)) rfl rfl rfl pd_Waiting_has (by decide) [0] rfl (by decide) 0 7 rfl rfl rfl rfl (Nat.le_of_ble_eq_true rfl) d_Waiting_lastFunction_7 (by decide)) ?_
  refine J_if_eq (tgt := 27) X d_Waiting_lastFunction_10 (by decide) h (fun c3 h => ?_) (fun c3 h => ?_)
  · refine J_iconst X d_Waiting_lastFunction_27 ?_
    cases h
    exact J_ret E ⟨_, rfl, rfl⟩ d_Waiting_lastFunction_28 (Nat.le_refl _) (Nat.le_refl _) rfl
  · refine J_aload_n X d_Waiting_lastFunction_13 rfl 0 rfl ?_
    refine J_get X (j_in in_Waiting) 0 rfl rfl 2 (by decide) (j_m own_Waiting_lastFunction (by decide +kernel)) rfl d_Waiting_lastFunction_14 ?_
    refine J_aload_n X d_Waiting_lastFunction_17 rfl 0 rfl ?_
    refine J_get X (j_in in_Waiting) 0 rfl rfl 3 (by decide) (j_m own_Waiting_lastFunction (by decide +kernel)) rfl d_Waiting_lastFunction_18 ?_
    refine J_iconst X d_Waiting_lastFunction_21 ?_
    refine J_isub X d_Waiting_lastFunction_22 ?_
    obtain ⟨g4, h⟩ := wk_g h
    refine J_iald X 1 0 rfl rfl g4 d_Waiting_lastFunction_23 ?_
    refine J_goto (tgt := 28) X d_Waiting_lastFunction_24 (by decide) ?_
    cases h
    exact J_ret E ⟨_, rfl, rfl⟩ d_Waiting_lastFunction_28 (Nat.le_refl _) (Nat.le_refl _) rfl

theorem d_Waiting_setLastFunction_0 : decode b_Waiting_setLastFunction 0 = .ok (.aload_n 0, 1) := by decide +kernel
theorem d_Waiting_setLastFunction_1 : decode b_Waiting_setLastFunction 1 = .ok (.aload_n 0, 1) := by decide +kernel
theorem d_Waiting_setLastFunction_2 : decode b_Waiting_setLastFunction 2 = .ok (.getfield 21, 3) := by decide +kernel
theorem d_Waiting_setLastFunction_5 : decode b_Waiting_setLastFunction 5 = .ok (.iconst 1, 1) := by decide +kernel
theorem d_Waiting_setLastFunction_6 : decode b_Waiting_setLastFunction 6 = .ok (.isub, 1) := by decide +kernel
theorem d_Waiting_setLastFunction_7 : decode b_Waiting_setLastFunction 7 = .ok (.invokevirtual 34, 3) := by decide +kernel
theorem d_Waiting_setLastFunction_10 : decode b_Waiting_setLastFunction 10 = .ok (.ifCond .eq 15, 3) := by decide +kernel
theorem d_Waiting_setLastFunction_13 : decode b_Waiting_setLastFunction 13 = .ok (.aload_n 0, 1) := by decide +kernel
theorem d_Waiting_setLastFunction_14 : decode b_Waiting_setLastFunction 14 = .ok (.getfield 18, 3) := by decide +kernel
theorem d_Waiting_setLastFunction_17 : decode b_Waiting_setLastFunction 17 = .ok (.aload_n 0, 1) := by decide +kernel
theorem d_Waiting_setLastFunction_18 : decode b_Waiting_setLastFunction 18 = .ok (.getfield 21, 3) := by decide +kernel
theorem d_Waiting_setLastFunction_21 : decode b_Waiting_setLastFunction 21 = .ok (.iconst 1, 1) := by decide +kernel
theorem d_Waiting_setLastFunction_22 : decode b_Waiting_setLastFunction 22 = .ok (.isub, 1) := by decide +kernel
theorem d_Waiting_setLastFunction_23 : decode b_Waiting_setLastFunction 23 = .ok (.iload_n 1, 1) := by decide +kernel
theorem d_Waiting_setLastFunction_24 : decode b_Waiting_setLastFunction 24 = .ok (.iastore, 1) := by decide +kernel
theorem d_Waiting_setLastFunction_25 : decode b_Waiting_setLastFunction 25 = .ok (.return_, 1) := by decide +kernel
def f_Waiting_setLastFunction (W_depth : Int) (W_functions : Int → Int) (p1 : Int) : Option ((Int → Int)) :=
  Option.bind (f_Waiting_has (W_depth - 1)) (fun r1 =>
   if rI r1 = true then (if r1 = 0 then (
    some W_functions) else (
    if jix (W_depth - 1) 400 = true then (
     some (upZ W_functions (W_depth - 1) p1)) else none)) else none)
set_option maxHeartbeats 4000000 in
set_option maxRecDepth 100000 in
theorem c_Waiting_setLastFunction {l : Launch} {D : va_G} {cI cL cB : ClassId} {ad : Nat → Nat} {W_depth : Int} {W_most : Int} {W_functions : Int → Int} {p1 : Int} {out : (Int → Int)} (h : f_Waiting_setLastFunction W_depth W_functions p1 = some out) : CT jF0 false l D [(cI, .int), (cL, .long), (cB, .byte)] y_Waiting_setLastFunction w_Waiting_setLastFunction ({ frames := 1, cells := 0, slots := 0, locals := 21 } : Room) [.ref (ad 24), .int (zI p1)] [(ad 24, .inr (7, [.ref (ad 25), .ref (ad 26), .ref (ad 27), .int (zI W_depth), .int (zI W_most)])), (ad 27, .inl (cI, 400, .inl (zA W_functions)))] none [(ad 24, .inr (7, [.ref (ad 25), .ref (ad 26), .ref (ad 27), .int (zI W_depth), .int (zI W_most)])), (ad 27, .inl (cI, 400, .inl (zA out)))] 0 0 := by
  refine CT_of_J (cc := b_Waiting_setLastFunction) (maxL := 2) (ret := none) jF0_k (plainFor_of_name (by decide)) rfl (Nat.le_of_ble_eq_true rfl) ?_
  intro K hKl hKD X E
  subst hKl; subst hKD
  unfold f_Waiting_setLastFunction at h
  refine J_aload_n X d_Waiting_setLastFunction_0 rfl 0 rfl ?_
  refine J_aload_n X d_Waiting_setLastFunction_1 rfl 0 rfl ?_
  refine J_get X (j_in in_Waiting) 0 rfl rfl 3 (by decide) (j_m own_Waiting_setLastFunction (by decide +kernel)) rfl d_Waiting_setLastFunction_2 ?_
  refine J_iconst X d_Waiting_setLastFunction_5 ?_
  refine J_isub X d_Waiting_setLastFunction_6 ?_
  obtain ⟨r1, q2, h⟩ := wk_b h
  refine J_afterP (jrunV X (c_Waiting_has (ad := ad) q2) jF0_k (fun _ _ _ _ => trivial) (jgV own_Waiting_setLastFunction (by decide +kernel)) rfl rfl rfl pd_Waiting_has (by decide) [0] rfl (by decide) 0 7 rfl rfl rfl rfl (Nat.le_of_ble_eq_true rfl) d_Waiting_setLastFunction_7 (by decide)) ?_
  refine J_if_eq (tgt := 25) X d_Waiting_setLastFunction_10 (by decide) h (fun c3 h => ?_) (fun c3 h => ?_)
  · cases h
    exact J_ret E rfl d_Waiting_setLastFunction_25 (Nat.le_refl _) (Nat.le_refl _) rfl
  · refine J_aload_n X d_Waiting_setLastFunction_13 rfl 0 rfl ?_
    refine J_get X (j_in in_Waiting) 0 rfl rfl 2 (by decide) (j_m own_Waiting_setLastFunction (by decide +kernel)) rfl d_Waiting_setLastFunction_14 ?_
    refine J_aload_n X d_Waiting_setLastFunction_17 rfl 0 rfl ?_
    refine J_get X (j_in in_Waiting) 0 rfl rfl 3 (by decide) (j_m own_Waiting_setLastFunction (by decide +kernel)) rfl d_Waiting_setLastFunction_18 ?_
    refine J_iconst X d_Waiting_setLastFunction_21 ?_
    refine J_isub X d_Waiting_setLastFunction_22 ?_
    refine J_iload_n X d_Waiting_setLastFunction_23 rfl 1 rfl ?_
    obtain ⟨g4, h⟩ := wk_g h
    refine J_iast (ws' := [(ad 24, .inr (7, [.ref (ad 25), .ref (ad 26), .ref (ad 27), .int (zI W_depth), .int (zI W_most)])), (ad 27, .inl (cI, 400, .inl (zA (upZ W_functions (W_depth - 1) p1))))]) X 1 0 rfl rfl g4 d_Waiting_setLastFunction_24 rfl ?_
    cases h
    exact J_ret E rfl d_Waiting_setLastFunction_25 (Nat.le_refl _) (Nat.le_refl _) rfl
