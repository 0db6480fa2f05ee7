theorem d_Terms_allows_0 : decode b_Terms_allows 0 = .ok (.iload_n 0, 1) := by decide +kernel
theorem d_Terms_allows_1 : decode b_Terms_allows 1 = .ok (.tableswitch 135 0 11 #[63, 123, 123, 123, 123, 123, 83, 103, 135, 105, 123, 123], 63) := by decide +kernel
theorem d_Terms_allows_64 : decode b_Terms_allows 64 = .ok (.lload_n 1, 1) := by decide +kernel
theorem d_Terms_allows_65 : decode b_Terms_allows 65 = .ok (.lconst 1, 1) := by decide +kernel
theorem d_Terms_allows_66 : decode b_Terms_allows 66 = .ok (.lcmp, 1) := by decide +kernel
theorem d_Terms_allows_67 : decode b_Terms_allows 67 = .ok (.ifCond .lt 15, 3) := by decide +kernel
theorem d_Terms_allows_70 : decode b_Terms_allows 70 = .ok (.lload_n 1, 1) := by decide +kernel
theorem d_Terms_allows_71 : decode b_Terms_allows 71 = .ok (.ldc2_w 41, 3) := by decide +kernel
theorem d_Terms_allows_74 : decode b_Terms_allows 74 = .ok (.lcmp, 1) := by decide +kernel
theorem d_Terms_allows_75 : decode b_Terms_allows 75 = .ok (.ifCond .gt 7, 3) := by decide +kernel
theorem d_Terms_allows_78 : decode b_Terms_allows 78 = .ok (.iconst 1, 1) := by decide +kernel
theorem d_Terms_allows_79 : decode b_Terms_allows 79 = .ok (.goto 4, 3) := by decide +kernel
theorem d_Terms_allows_82 : decode b_Terms_allows 82 = .ok (.iconst 0, 1) := by decide +kernel
theorem d_Terms_allows_83 : decode b_Terms_allows 83 = .ok (.ireturn, 1) := by decide +kernel
theorem d_Terms_allows_84 : decode b_Terms_allows 84 = .ok (.lload_n 1, 1) := by decide +kernel
theorem d_Terms_allows_85 : decode b_Terms_allows 85 = .ok (.lconst 0, 1) := by decide +kernel
theorem d_Terms_allows_86 : decode b_Terms_allows 86 = .ok (.lcmp, 1) := by decide +kernel
theorem d_Terms_allows_87 : decode b_Terms_allows 87 = .ok (.ifCond .lt 15, 3) := by decide +kernel
theorem d_Terms_allows_90 : decode b_Terms_allows 90 = .ok (.lload_n 1, 1) := by decide +kernel
theorem d_Terms_allows_91 : decode b_Terms_allows 91 = .ok (.ldc2_w 45, 3) := by decide +kernel
theorem d_Terms_allows_94 : decode b_Terms_allows 94 = .ok (.lcmp, 1) := by decide +kernel
theorem d_Terms_allows_95 : decode b_Terms_allows 95 = .ok (.ifCond .ge 7, 3) := by decide +kernel
theorem d_Terms_allows_98 : decode b_Terms_allows 98 = .ok (.iconst 1, 1) := by decide +kernel
theorem d_Terms_allows_99 : decode b_Terms_allows 99 = .ok (.goto 4, 3) := by decide +kernel
theorem d_Terms_allows_102 : decode b_Terms_allows 102 = .ok (.iconst 0, 1) := by decide +kernel
theorem d_Terms_allows_103 : decode b_Terms_allows 103 = .ok (.ireturn, 1) := by decide +kernel
theorem d_Terms_allows_104 : decode b_Terms_allows 104 = .ok (.iconst 1, 1) := by decide +kernel
theorem d_Terms_allows_105 : decode b_Terms_allows 105 = .ok (.ireturn, 1) := by decide +kernel
theorem d_Terms_allows_106 : decode b_Terms_allows 106 = .ok (.lload_n 1, 1) := by decide +kernel
theorem d_Terms_allows_107 : decode b_Terms_allows 107 = .ok (.lconst 0, 1) := by decide +kernel
theorem d_Terms_allows_108 : decode b_Terms_allows 108 = .ok (.lcmp, 1) := by decide +kernel
theorem d_Terms_allows_109 : decode b_Terms_allows 109 = .ok (.ifCond .eq 9, 3) := by decide +kernel
theorem d_Terms_allows_112 : decode b_Terms_allows 112 = .ok (.lload_n 1, 1) := by decide +kernel
theorem d_Terms_allows_113 : decode b_Terms_allows 113 = .ok (.lconst 1, 1) := by decide +kernel
theorem d_Terms_allows_114 : decode b_Terms_allows 114 = .ok (.lcmp, 1) := by decide +kernel
theorem d_Terms_allows_115 : decode b_Terms_allows 115 = .ok (.ifCond .ne 7, 3) := by decide +kernel
theorem d_Terms_allows_118 : decode b_Terms_allows 118 = .ok (.iconst 1, 1) := by decide +kernel
theorem d_Terms_allows_119 : decode b_Terms_allows 119 = .ok (.goto 4, 3) := by decide +kernel
theorem d_Terms_allows_122 : decode b_Terms_allows 122 = .ok (.iconst 0, 1) := by decide +kernel
theorem d_Terms_allows_123 : decode b_Terms_allows 123 = .ok (.ireturn, 1) := by decide +kernel
theorem d_Terms_allows_124 : decode b_Terms_allows 124 = .ok (.lload_n 1, 1) := by decide +kernel
theorem d_Terms_allows_125 : decode b_Terms_allows 125 = .ok (.lconst 0, 1) := by decide +kernel
theorem d_Terms_allows_126 : decode b_Terms_allows 126 = .ok (.lcmp, 1) := by decide +kernel
theorem d_Terms_allows_127 : decode b_Terms_allows 127 = .ok (.ifCond .ne 7, 3) := by decide +kernel
theorem d_Terms_allows_130 : decode b_Terms_allows 130 = .ok (.iconst 1, 1) := by decide +kernel
theorem d_Terms_allows_131 : decode b_Terms_allows 131 = .ok (.goto 4, 3) := by decide +kernel
theorem d_Terms_allows_134 : decode b_Terms_allows 134 = .ok (.iconst 0, 1) := by decide +kernel
theorem d_Terms_allows_135 : decode b_Terms_allows 135 = .ok (.ireturn, 1) := by decide +kernel
theorem d_Terms_allows_136 : decode b_Terms_allows 136 = .ok (.iconst 0, 1) := by decide +kernel
theorem d_Terms_allows_137 : decode b_Terms_allows 137 = .ok (.ireturn, 1) := by decide +kernel
def f_Terms_allows (p0 : Int) (p1 : Int) : Option (Int) :=
  if rI p0 = true then (
   if p0 = 0 then (
    if jl2 p1 1 = true then (if p1 < 1 then (
     some 0) else (
     if jl2 p1 200 = true then (if 200 < p1 then (
      some 0) else (
      some 1)) else none)) else none) else (
    if p0 = 1 then (
     if jl2 p1 0 = true then (if p1 = 0 then (
      some 1) else (
      some 0)) else none) else (
     if p0 = 2 then (
      if jl2 p1 0 = true then (if p1 = 0 then (
       some 1) else (
       some 0)) else none) else (
      if p0 = 3 then (
       if jl2 p1 0 = true then (if p1 = 0 then (
        some 1) else (
        some 0)) else none) else (
       if p0 = 4 then (
        if jl2 p1 0 = true then (if p1 = 0 then (
         some 1) else (
         some 0)) else none) else (
        if p0 = 5 then (
         if jl2 p1 0 = true then (if p1 = 0 then (
          some 1) else (
          some 0)) else none) else (
         if p0 = 6 then (
          if jl2 p1 0 = true then (if p1 < 0 then (
           some 0) else (
           if jl2 p1 32 = true then (if 32 ≤ p1 then (
            some 0) else (
            some 1)) else none)) else none) else (
          if p0 = 7 then (
           some 1) else (
           if p0 = 8 then (
            some 0) else (
            if p0 = 9 then (
             if jl2 p1 0 = true then (if p1 = 0 then (
              some 1) else (
              if jl2 p1 1 = true then (if p1 = 1 then (
               some 1) else (
               some 0)) else none)) else none) else (
             if p0 = 10 then (
              if jl2 p1 0 = true then (if p1 = 0 then (
               some 1) else (
               some 0)) else none) else (
              if p0 = 11 then (
               if jl2 p1 0 = true then (if p1 = 0 then (
                some 1) else (
                some 0)) else none) else (
               some 0))))))))))))) else none
set_option maxHeartbeats 4000000 in
set_option maxRecDepth 100000 in
theorem c_Terms_allows {l : Launch} {D : va_G} {cI cL cB : ClassId} {ad : Nat → Nat} {p0 : Int} {p1 : Int} {out : Int} (h : f_Terms_allows p0 p1 = some out) : CT jF0 true l D [(cI, .int), (cL, .long), (cB, .byte)] y_Terms_allows w_Terms_allows ({ frames := 0, cells := 0, slots := 0, locals := 0 } : Room) [.int (zI p0), .long (zL p1)] [] (some (.int (zI out))) [] 0 0 := by
  refine CT_of_J (cc := b_Terms_allows) (maxL := 3) (ret := (some .boolean)) jF0_k (plainFor_of_name (by decide)) rfl (Nat.le_of_ble_eq_true rfl) ?_
  intro K hKl hKD X E
  subst hKl; subst hKD
  unfold f_Terms_allows at h
  refine J_iload_n X d_Terms_allows_0 rfl 0 rfl ?_
  obtain ⟨g1, h⟩ := wk_g h
  rcases wk_c h with ⟨c2, h⟩ | ⟨c2, h⟩
  · refine J_tsIn (tgt := 64) X 0 c2 g1 d_Terms_allows_1 (by decide) (by decide) rfl (by decide) ?_
    refine J_lload_n X d_Terms_allows_64 rfl 1 rfl ?_
    refine J_lconst (v := 1) X d_Terms_allows_65 (by decide) ?_
    refine J_lc_lt (tgt := 82) X d_Terms_allows_66 d_Terms_allows_67 (by decide) h (fun c3 h => ?_) (fun c3 h => ?_)
    · refine J_iconst X d_Terms_allows_82 ?_
      cases h
      exact J_ret E ⟨_, rfl, j_bool (Or.inl rfl)⟩ d_Terms_allows_83 (Nat.le_refl _) (Nat.le_refl _) rfl
    · refine J_lload_n X d_Terms_allows_70 rfl 1 rfl ?_
      refine J_ldc2 (v := 200) (n := 200) X (j_m own_Terms_allows (by decide +kernel)) (by decide) d_Terms_allows_71 ?_
      refine J_lc_gt (tgt := 82) X d_Terms_allows_74 d_Terms_allows_75 (by decide) h (fun c4 h => ?_) (fun c4 h => ?_)
      · refine J_iconst X d_Terms_allows_82 ?_
        cases h
        exact J_ret E ⟨_, rfl, j_bool (Or.inl rfl)⟩ d_Terms_allows_83 (Nat.le_refl _) (Nat.le_refl _) rfl
      · refine J_iconst X d_Terms_allows_78 ?_
        refine J_goto (tgt := 83) X d_Terms_allows_79 (by decide) ?_
        cases h
        exact J_ret E ⟨_, rfl, j_bool (Or.inr rfl)⟩ d_Terms_allows_83 (Nat.le_refl _) (Nat.le_refl _) rfl
  · rcases wk_c h with ⟨c5, h⟩ | ⟨c5, h⟩
    · refine J_tsIn (tgt := 124) X 1 c5 g1 d_Terms_allows_1 (by decide) (by decide) rfl (by decide) ?_
      refine J_lload_n X d_Terms_allows_124 rfl 1 rfl ?_
      refine J_lconst (v := 0) X d_Terms_allows_125 (by decide) ?_
      refine J_lc_ne (tgt := 134) X d_Terms_allows_126 d_Terms_allows_127 (by decide) h (fun c6 h => ?_) (fun c6 h => ?_)
      · refine J_iconst X d_Terms_allows_134 ?_
        cases h
        exact J_ret E ⟨_, rfl, j_bool (Or.inl rfl)⟩ d_Terms_allows_135 (Nat.le_refl _) (Nat.le_refl _) rfl
      · refine J_iconst X d_Terms_allows_130 ?_
        refine J_goto (tgt := 135) X d_Terms_allows_131 (by decide) ?_
        cases h
        exact J_ret E ⟨_, rfl, j_bool (Or.inr rfl)⟩ d_Terms_allows_135 (Nat.le_refl _) (Nat.le_refl _) rfl
    · rcases wk_c h with ⟨c7, h⟩ | ⟨c7, h⟩
      · refine J_tsIn (tgt := 124) X 2 c7 g1 d_Terms_allows_1 (by decide) (by decide) rfl (by decide) ?_
        refine J_lload_n X d_Terms_allows_124 rfl 1 rfl ?_
        refine J_lconst (v := 0) X d_Terms_allows_125 (by decide) ?_
        refine J_lc_ne (tgt := 134) X d_Terms_allows_126 d_Terms_allows_127 (by decide) h (fun c8 h => ?_) (fun c8 h => ?_)
        · refine J_iconst X d_Terms_allows_134 ?_
          cases h
          exact J_ret E ⟨_, rfl, j_bool (Or.inl rfl)⟩ d_Terms_allows_135 (Nat.le_refl _) (Nat.le_refl _) rfl
        · refine J_iconst X d_Terms_allows_130 ?_
          refine J_goto (tgt := 135) X d_Terms_allows_131 (by decide) ?_
          cases h
          exact J_ret E ⟨_, rfl, j_bool (Or.inr rfl)⟩ d_Terms_allows_135 (Nat.le_refl _) (Nat.le_refl _) rfl
      · rcases wk_c h with ⟨c9, h⟩ | ⟨c9, h⟩
        · refine J_tsIn (tgt := 124) X 3 c9 g1 d_Terms_allows_1 (by decide) (by decide) rfl (by decide) ?_
          refine J_lload_n X d_Terms_allows_124 rfl 1 rfl ?_
          refine J_lconst (v := 0) X d_Terms_allows_125 (by decide) ?_
          refine J_lc_ne (tgt := 134) X d_Terms_allows_126 d_Terms_allows_127 (by decide) h (fun c10 h => ?_) (fun c10 h => ?_)
          · refine J_iconst X d_Terms_allows_134 ?_
            cases h
            exact J_ret E ⟨_, rfl, j_bool (Or.inl rfl)⟩ d_Terms_allows_135 (Nat.le_refl _) (Nat.le_refl _) rfl
          · refine J_iconst X d_Terms_allows_130 ?_
            refine J_goto (tgt := 135) X d_Terms_allows_131 (by decide) ?_
            cases h
            exact J_ret E ⟨_, rfl, j_bool (Or.inr rfl)⟩ d_Terms_allows_135 (Nat.le_refl _) (Nat.le_refl _) rfl
        · rcases wk_c h with ⟨c11, h⟩ | ⟨c11, h⟩
          · refine J_tsIn (tgt := 124) X 4 c11 g1 d_Terms_allows_1 (by decide) (by decide) rfl (by decide) ?_
            refine J_lload_n X d_Terms_allows_124 rfl 1 rfl ?_
            refine J_lconst (v := 0) X d_Terms_allows_125 (by decide) ?_
            refine J_lc_ne (tgt := 134) X d_Terms_allows_126 d_Terms_allows_127 (by decide) h (fun c12 h => ?_) (fun c12 h => ?_)
            · refine J_iconst X d_Terms_allows_134 ?_
              cases h
              exact J_ret E ⟨_, rfl, j_bool (Or.inl rfl)⟩ d_Terms_allows_135 (Nat.le_refl _) (Nat.le_refl _) rfl
            · refine J_iconst X d_Terms_allows_130 ?_
              refine J_goto (tgt := 135) X d_Terms_allows_131 (by decide) ?_
              cases h
              exact J_ret E ⟨_, rfl, j_bool (Or.inr rfl)⟩ d_Terms_allows_135 (Nat.le_refl _) (Nat.le_refl _) rfl
          · rcases wk_c h with ⟨c13, h⟩ | ⟨c13, h⟩
            · refine J_tsIn (tgt := 124) X 5 c13 g1 d_Terms_allows_1 (by decide) (by decide) rfl (by decide) ?_
              refine J_lload_n X d_Terms_allows_124 rfl 1 rfl ?_
              refine J_lconst (v := 0) X d_Terms_allows_125 (by decide) ?_
              refine J_lc_ne (tgt := 134) X d_Terms_allows_126 d_Terms_allows_127 (by decide) h (fun c14 h => ?_) (fun c14 h => ?_)
              · refine J_iconst X d_Terms_allows_134 ?_
                cases h
                exact J_ret E ⟨_, rfl, j_bool (Or.inl rfl)⟩ d_Terms_allows_135 (Nat.le_refl _) (Nat.le_refl _) rfl
              · refine J_iconst X d_Terms_allows_130 ?_
                refine J_goto (tgt := 135) X d_Terms_allows_131 (by decide) ?_
                cases h
                exact J_ret E ⟨_, rfl, j_bool (Or.inr rfl)⟩ d_Terms_allows_135 (Nat.le_refl _) (Nat.le_refl _) rfl
            · rcases wk_c h with ⟨c15, h⟩ | ⟨c15, h⟩
              · refine J_tsIn (tgt := 84) X 6 c15 g1 d_Terms_allows_1 (by decide) (by decide) rfl (by decide) ?_
                refine J_lload_n X d_Terms_allows_84 rfl 1 rfl ?_
                refine J_lconst (v := 0) X d_Terms_allows_85 (by decide) ?_
                refine J_lc_lt (tgt := 102) X d_Terms_allows_86 d_Terms_allows_87 (by decide) h (fun c16 h => ?_) (fun c16 h => ?_)
                · refine J_iconst X d_Terms_allows_102 ?_
                  cases h
                  exact J_ret E ⟨_, rfl, j_bool (Or.inl rfl)⟩ d_Terms_allows_103 (Nat.le_refl _) (Nat.le_refl _) rfl
                · refine J_lload_n X d_Terms_allows_90 rfl 1 rfl ?_
                  refine J_ldc2 (v := 32) (n := 32) X (j_m own_Terms_allows (by decide +kernel)) (by decide) d_Terms_allows_91 ?_
                  refine J_lc_ge (tgt := 102) X d_Terms_allows_94 d_Terms_allows_95 (by decide) h (fun c17 h => ?_) (fun c17 h => ?_)
                  · refine J_iconst X d_Terms_allows_102 ?_
                    cases h
                    exact J_ret E ⟨_, rfl, j_bool (Or.inl rfl)⟩ d_Terms_allows_103 (Nat.le_refl _) (Nat.le_refl _) rfl
                  · refine J_iconst X d_Terms_allows_98 ?_
                    refine J_goto (tgt := 103) X d_Terms_allows_99 (by decide) ?_
                    cases h
                    exact J_ret E ⟨_, rfl, j_bool (Or.inr rfl)⟩ d_Terms_allows_103 (Nat.le_refl _) (Nat.le_refl _) rfl
              · rcases wk_c h with ⟨c18, h⟩ | ⟨c18, h⟩
                · refine J_tsIn (tgt := 104) X 7 c18 g1 d_Terms_allows_1 (by decide) (by decide) rfl (by decide) ?_
                  refine J_iconst X d_Terms_allows_104 ?_
                  cases h
                  exact J_ret E ⟨_, rfl, j_bool (Or.inr rfl)⟩ d_Terms_allows_105 (Nat.le_refl _) (Nat.le_refl _) rfl
                · rcases wk_c h with ⟨c19, h⟩ | ⟨c19, h⟩
                  · refine J_tsIn (tgt := 136) X 8 c19 g1 d_Terms_allows_1 (by decide) (by decide) rfl (by decide) ?_
                    refine J_iconst X d_Terms_allows_136 ?_
                    cases h
                    exact J_ret E ⟨_, rfl, j_bool (Or.inl rfl)⟩ d_Terms_allows_137 (Nat.le_refl _) (Nat.le_refl _) rfl
                  · rcases wk_c h with ⟨c20, h⟩ | ⟨c20, h⟩
                    · refine J_tsIn (tgt := 106) X 9 c20 g1 d_Terms_allows_1 (by decide) (by decide) rfl (by decide) ?_
                      refine J_lload_n X d_Terms_allows_106 rfl 1 rfl ?_
                      refine J_lconst (v := 0) X d_Terms_allows_107 (by decide) ?_
                      refine J_lc_eq (tgt := 118) X d_Terms_allows_108 d_Terms_allows_109 (by decide) h (fun c21 h => ?_) (fun c21 h => ?_)
                      · refine J_iconst X d_Terms_allows_118 ?_
                        refine J_goto (tgt := 123) X d_Terms_allows_119 (by decide) ?_
                        cases h
                        exact J_ret E ⟨_, rfl, j_bool (Or.inr rfl)⟩ d_Terms_allows_123 (Nat.le_refl _) (Nat.le_refl _) rfl
                      · refine J_lload_n X d_Terms_allows_112 rfl 1 rfl ?_
                        refine J_lconst (v := 1) X d_Terms_allows_113 (by decide) ?_
                        refine J_lc_ne (tgt := 122) X d_Terms_allows_114 d_Terms_allows_115 (by decide) h (fun c22 h => ?_) (fun c22 h => ?_)
                        · refine J_iconst X d_Terms_allows_122 ?_
                          cases h
                          exact J_ret E ⟨_, rfl, j_bool (Or.inl rfl)⟩ d_Terms_allows_123 (Nat.le_refl _) (Nat.le_refl _) rfl
                        · refine J_iconst X d_Terms_allows_118 ?_
                          refine J_goto (tgt := 123) X d_Terms_allows_119 (by decide) ?_
                          cases h
                          exact J_ret E ⟨_, rfl, j_bool (Or.inr rfl)⟩ d_Terms_allows_123 (Nat.le_refl _) (Nat.le_refl _) rfl
                    · rcases wk_c h with ⟨c23, h⟩ | ⟨c23, h⟩
                      · refine J_tsIn (tgt := 124) X 10 c23 g1 d_Terms_allows_1 (by decide) (by decide) rfl (by decide) ?_
                        refine J_lload_n X d_Terms_allows_124 rfl 1 rfl ?_
                        refine J_lconst (v := 0) X d_Terms_allows_125 (by decide) ?_
                        refine J_lc_ne (tgt := 134) X d_Terms_allows_126 d_Terms_allows_127 (by decide) h (fun c24 h => ?_) (fun c24 h => ?_)
                        · refine J_iconst X d_Terms_allows_134 ?_
                          cases h
                          exact J_ret E ⟨_, rfl, j_bool (Or.inl rfl)⟩ d_Terms_allows_135 (Nat.le_refl _) (Nat.le_refl _) rfl
                        · refine J_iconst X d_Terms_allows_130 ?_
                          refine J_goto (tgt := 135) X d_Terms_allows_131 (by decide) ?_
                          cases h
                          exact J_ret E ⟨_, rfl, j_bool (Or.inr rfl)⟩ d_Terms_allows_135 (Nat.le_refl _) (Nat.le_refl _) rfl
                      · rcases wk_c h with ⟨c25, h⟩ | ⟨c25, h⟩
                        · refine J_tsIn (tgt := 124) X 11 c25 g1 d_Terms_allows_1 (by decide) (by decide) rfl (by decide) ?_
                          refine J_lload_n X d_Terms_allows_124 rfl 1 rfl ?_
                          refine J_lconst (v := 0) X d_Terms_allows_125 (by decide) ?_
                          refine J_lc_ne (tgt := 134) X d_Terms_allows_126 d_Terms_allows_127 (by decide) h (fun c26 h => ?_) (fun c26 h => ?_)
                          · refine J_iconst X d_Terms_allows_134 ?_
                            cases h
                            exact J_ret E ⟨_, rfl, j_bool (Or.inl rfl)⟩ d_Terms_allows_135 (Nat.le_refl _) (Nat.le_refl _) rfl
                          · refine J_iconst X d_Terms_allows_130 ?_
                            refine J_goto (tgt := 135) X d_Terms_allows_131 (by decide) ?_
                            cases h
                            exact J_ret E ⟨_, rfl, j_bool (Or.inr rfl)⟩ d_Terms_allows_135 (Nat.le_refl _) (Nat.le_refl _) rfl
                        · refine J_tsOut (tgt := 136) X g1 d_Terms_allows_1 (by omega) (by decide) ?_
                          refine J_iconst X d_Terms_allows_136 ?_
                          cases h
                          exact J_ret E ⟨_, rfl, j_bool (Or.inl rfl)⟩ d_Terms_allows_137 (Nat.le_refl _) (Nat.le_refl _) rfl

theorem d_Terms_partsOf_0 : decode b_Terms_partsOf 0 = .ok (.iload_n 0, 1) := by decide +kernel
theorem d_Terms_partsOf_1 : decode b_Terms_partsOf 1 = .ok (.iconst 2, 1) := by decide +kernel
theorem d_Terms_partsOf_2 : decode b_Terms_partsOf 2 = .ok (.if_icmp .ne 5, 3) := by decide +kernel
theorem d_Terms_partsOf_5 : decode b_Terms_partsOf 5 = .ok (.iconst 2, 1) := by decide +kernel
theorem d_Terms_partsOf_6 : decode b_Terms_partsOf 6 = .ok (.ireturn, 1) := by decide +kernel
theorem d_Terms_partsOf_7 : decode b_Terms_partsOf 7 = .ok (.iload_n 0, 1) := by decide +kernel
theorem d_Terms_partsOf_8 : decode b_Terms_partsOf 8 = .ok (.iconst 1, 1) := by decide +kernel
theorem d_Terms_partsOf_9 : decode b_Terms_partsOf 9 = .ok (.if_icmp .eq 13, 3) := by decide +kernel
theorem d_Terms_partsOf_12 : decode b_Terms_partsOf 12 = .ok (.iload_n 0, 1) := by decide +kernel
theorem d_Terms_partsOf_13 : decode b_Terms_partsOf 13 = .ok (.iconst 3, 1) := by decide +kernel
theorem d_Terms_partsOf_14 : decode b_Terms_partsOf 14 = .ok (.if_icmp .eq 8, 3) := by decide +kernel
theorem d_Terms_partsOf_17 : decode b_Terms_partsOf 17 = .ok (.iload_n 0, 1) := by decide +kernel
theorem d_Terms_partsOf_18 : decode b_Terms_partsOf 18 = .ok (.iconst 4, 1) := by decide +kernel
theorem d_Terms_partsOf_19 : decode b_Terms_partsOf 19 = .ok (.if_icmp .ne 7, 3) := by decide +kernel
theorem d_Terms_partsOf_22 : decode b_Terms_partsOf 22 = .ok (.iconst 1, 1) := by decide +kernel
theorem d_Terms_partsOf_23 : decode b_Terms_partsOf 23 = .ok (.goto 4, 3) := by decide +kernel
theorem d_Terms_partsOf_26 : decode b_Terms_partsOf 26 = .ok (.iconst 0, 1) := by decide +kernel
theorem d_Terms_partsOf_27 : decode b_Terms_partsOf 27 = .ok (.ireturn, 1) := by decide +kernel
def f_Terms_partsOf (p0 : Int) : Option (Int) :=
  if jr2 p0 2 = true then (if p0 = 2 then (
   some 2) else (
   if jr2 p0 1 = true then (if p0 = 1 then (
    some 1) else (
    if jr2 p0 3 = true then (if p0 = 3 then (
     some 1) else (
     if jr2 p0 4 = true then (if p0 = 4 then (
      some 1) else (
      some 0)) else none)) else none)) else none)) else none
set_option maxHeartbeats 4000000 in
set_option maxRecDepth 100000 in
theorem c_Terms_partsOf {l : Launch} {D : va_G} {cI cL cB : ClassId} {ad : Nat → Nat} {p0 : Int} {out : Int} (h : f_Terms_partsOf p0 = some out) : CT jF0 true l D [(cI, .int), (cL, .long), (cB, .byte)] y_Terms_partsOf w_Terms_partsOf ({ frames := 0, cells := 0, slots := 0, locals := 0 } : Room) [.int (zI p0)] [] (some (.int (zI out))) [] 0 0 := by
  refine CT_of_J (cc := b_Terms_partsOf) (maxL := 1) (ret := (some .int)) jF0_k (plainFor_of_name (by decide)) rfl (Nat.le_of_ble_eq_true rfl) ?_
  intro K hKl hKD X E
  subst hKl; subst hKD
  unfold f_Terms_partsOf at h
  refine J_iload_n X d_Terms_partsOf_0 rfl 0 rfl ?_
  refine J_iconst X d_Terms_partsOf_1 ?_
  refine J_icmp_ne (tgt := 7) X d_Terms_partsOf_2 (by decide) h (fun c1 h => ?_) (fun c1 h => ?_)
  · refine J_iload_n X d_Terms_partsOf_7 rfl 0 rfl ?_
    refine J_iconst X d_Terms_partsOf_8 ?_
    refine J_icmp_eq (tgt := 22) X d_Terms_partsOf_9 (by decide) h (fun c2 h => ?_) (fun c2 h => ?_)
    · refine J_iconst X d_Terms_partsOf_22 ?_
      refine J_goto (tgt := 27) X d_Terms_partsOf_23 (by decide) ?_
      cases h
      exact J_ret E ⟨_, rfl, rfl⟩ d_Terms_partsOf_27 (Nat.le_refl _) (Nat.le_refl _) rfl
    · refine J_iload_n X d_Terms_partsOf_12 rfl 0 rfl ?_
      refine J_iconst X d_Terms_partsOf_13 ?_
      refine J_icmp_eq (tgt := 22) X d_Terms_partsOf_14 (by decide) h (fun c3 h => ?_) (fun c3 h => ?_)
      · refine J_iconst X d_Terms_partsOf_22 ?_
        refine J_goto (tgt := 27) X d_Terms_partsOf_23 (by decide) ?_
        cases h
        exact J_ret E ⟨_, rfl, rfl⟩ d_Terms_partsOf_27 (Nat.le_refl _) (Nat.le_refl _) rfl
      · refine J_iload_n X d_Terms_partsOf_17 rfl 0 rfl ?_
        refine J_iconst X d_Terms_partsOf_18 ?_
        refine J_icmp_ne (tgt := 26) X d_Terms_partsOf_19 (by decide) h (fun c4 h => ?_) (fun c4 h => ?_)
        · refine J_iconst X d_Terms_partsOf_26 ?_
          cases h
          exact J_ret E ⟨_, rfl, rfl⟩ d_Terms_partsOf_27 (Nat.le_refl _) (Nat.le_refl _) rfl
        · refine J_iconst X d_Terms_partsOf_22 ?_
          refine J_goto (tgt := 27) X d_Terms_partsOf_23 (by decide) ?_
          cases h
          exact J_ret E ⟨_, rfl, rfl⟩ d_Terms_partsOf_27 (Nat.le_refl _) (Nat.le_refl _) rfl
  · refine J_iconst X d_Terms_partsOf_5 ?_
    cases h
    exact J_ret E ⟨_, rfl, rfl⟩ d_Terms_partsOf_6 (Nat.le_refl _) (Nat.le_refl _) rfl

theorem d_Terms_count_0 : decode b_Terms_count 0 = .ok (.aload_n 0, 1) := by decide +kernel
theorem d_Terms_count_1 : decode b_Terms_count 1 = .ok (.getfield 38, 3) := by decide +kernel
theorem d_Terms_count_4 : decode b_Terms_count 4 = .ok (.ireturn, 1) := by decide +kernel
def f_Terms_count (T_count : Int) : Option (Int) :=
  some T_count
set_option maxHeartbeats 4000000 in
set_option maxRecDepth 100000 in
theorem c_Terms_count {l : Launch} {D : va_G} {cI cL cB : ClassId} {ad : Nat → Nat} {T_nodes : Int} {T_count : Int} {out : Int} (h : f_Terms_count T_count = some out) : CT jF0 true l D [(cI, .int), (cL, .long), (cB, .byte)] y_Terms_count w_Terms_count ({ frames := 0, cells := 0, slots := 0, locals := 0 } : Room) [.ref (ad 1)] [(ad 1, .inr (1, [.ref (ad 2), .ref (ad 3), .ref (ad 4), .ref (ad 5), .ref (ad 6), .int (zI T_nodes), .int (zI T_count)]))] (some (.int (zI out))) [(ad 1, .inr (1, [.ref (ad 2), .ref (ad 3), .ref (ad 4), .ref (ad 5), .ref (ad 6), .int (zI T_nodes), .int (zI T_count)]))] 0 0 := by
  refine CT_of_J (cc := b_Terms_count) (maxL := 1) (ret := (some .int)) jF0_k (plainFor_of_name (by decide)) rfl (Nat.le_of_ble_eq_true rfl) ?_
  intro K hKl hKD X E
  subst hKl; subst hKD
  unfold f_Terms_count at h
  refine J_aload_n X d_Terms_count_0 rfl 0 rfl ?_
  refine J_get X (j_in in_Terms) 0 rfl rfl 6 (by decide) (j_m own_Terms_count (by decide +kernel)) rfl d_Terms_count_1 ?_
  cases h
  exact J_ret E ⟨_, rfl, rfl⟩ d_Terms_count_4 (Nat.le_refl _) (Nat.le_refl _) rfl

theorem d_Terms_nodeCount_0 : decode b_Terms_nodeCount 0 = .ok (.aload_n 0, 1) := by decide +kernel
theorem d_Terms_nodeCount_1 : decode b_Terms_nodeCount 1 = .ok (.getfield 34, 3) := by decide +kernel
theorem d_Terms_nodeCount_4 : decode b_Terms_nodeCount 4 = .ok (.ireturn, 1) := by decide +kernel
def f_Terms_nodeCount (T_nodes : Int) : Option (Int) :=
  some T_nodes
set_option maxHeartbeats 4000000 in
set_option maxRecDepth 100000 in
theorem c_Terms_nodeCount {l : Launch} {D : va_G} {cI cL cB : ClassId} {ad : Nat → Nat} {T_nodes : Int} {T_count : Int} {out : Int} (h : f_Terms_nodeCount T_nodes = some out) : CT jF0 true l D [(cI, .int), (cL, .long), (cB, .byte)] y_Terms_nodeCount w_Terms_nodeCount ({ frames := 0, cells := 0, slots := 0, locals := 0 } : Room) [.ref (ad 1)] [(ad 1, .inr (1, [.ref (ad 2), .ref (ad 3), .ref (ad 4), .ref (ad 5), .ref (ad 6), .int (zI T_nodes), .int (zI T_count)]))] (some (.int (zI out))) [(ad 1, .inr (1, [.ref (ad 2), .ref (ad 3), .ref (ad 4), .ref (ad 5), .ref (ad 6), .int (zI T_nodes), .int (zI T_count)]))] 0 0 := by
  refine CT_of_J (cc := b_Terms_nodeCount) (maxL := 1) (ret := (some .int)) jF0_k (plainFor_of_name (by decide)) rfl (Nat.le_of_ble_eq_true rfl) ?_
  intro K hKl hKD X E
  subst hKl; subst hKD
  unfold f_Terms_nodeCount at h
  refine J_aload_n X d_Terms_nodeCount_0 rfl 0 rfl ?_
  refine J_get X (j_in in_Terms) 0 rfl rfl 5 (by decide) (j_m own_Terms_nodeCount (by decide +kernel)) rfl d_Terms_nodeCount_1 ?_
  cases h
  exact J_ret E ⟨_, rfl, rfl⟩ d_Terms_nodeCount_4 (Nat.le_refl _) (Nat.le_refl _) rfl

theorem d_Terms_isFull_0 : decode b_Terms_isFull 0 = .ok (.aload_n 0, 1) := by decide +kernel
theorem d_Terms_isFull_1 : decode b_Terms_isFull 1 = .ok (.getfield 34, 3) := by decide +kernel
theorem d_Terms_isFull_4 : decode b_Terms_isFull 4 = .ok (.sipush 200, 3) := by decide +kernel
theorem d_Terms_isFull_7 : decode b_Terms_isFull 7 = .ok (.if_icmp .lt 7, 3) := by decide +kernel
theorem d_Terms_isFull_10 : decode b_Terms_isFull 10 = .ok (.iconst 1, 1) := by decide +kernel
theorem d_Terms_isFull_11 : decode b_Terms_isFull 11 = .ok (.goto 4, 3) := by decide +kernel
theorem d_Terms_isFull_14 : decode b_Terms_isFull 14 = .ok (.iconst 0, 1) := by decide +kernel
theorem d_Terms_isFull_15 : decode b_Terms_isFull 15 = .ok (.ireturn, 1) := by decide +kernel
def f_Terms_isFull (T_nodes : Int) : Option (Int) :=
  if jr2 T_nodes 200 = true then (if T_nodes < 200 then (
   some 0) else (
   some 1)) else none
set_option maxHeartbeats 4000000 in
set_option maxRecDepth 100000 in
theorem c_Terms_isFull {l : Launch} {D : va_G} {cI cL cB : ClassId} {ad : Nat → Nat} {T_nodes : Int} {T_count : Int} {out : Int} (h : f_Terms_isFull T_nodes = some out) : CT jF0 true l D [(cI, .int), (cL, .long), (cB, .byte)] y_Terms_isFull w_Terms_isFull ({ frames := 0, cells := 0, slots := 0, locals := 0 } : Room) [.ref (ad 1)] [(ad 1, .inr (1, [.ref (ad 2), .ref (ad 3), .ref (ad 4), .ref (ad 5), .ref (ad 6), .int (zI T_nodes), .int (zI T_count)]))] (some (.int (zI out))) [(ad 1, .inr (1, [.ref (ad 2), .ref (ad 3), .ref (ad 4), .ref (ad 5), .ref (ad 6), .int (zI T_nodes), .int (zI T_count)]))] 0 0 := by
  refine CT_of_J (cc := b_Terms_isFull) (maxL := 1) (ret := (some .boolean)) jF0_k (plainFor_of_name (by decide)) rfl (Nat.le_of_ble_eq_true rfl) ?_
  intro K hKl hKD X E
  subst hKl; subst hKD
  unfold f_Terms_isFull at h
  refine J_aload_n X d_Terms_isFull_0 rfl 0 rfl ?_
  refine J_get X (j_in in_Terms) 0 rfl rfl 5 (by decide) (j_m own_Terms_isFull (by decide +kernel)) rfl d_Terms_isFull_1 ?_
  refine J_sipush X d_Terms_isFull_4 (by decide) ?_
  refine J_icmp_lt (tgt := 14) X d_Terms_isFull_7 (by decide) h (fun c1 h => ?_) (fun c1 h => ?_)
  · refine J_iconst X d_Terms_isFull_14 ?_
    cases h
    exact J_ret E ⟨_, rfl, j_bool (Or.inl rfl)⟩ d_Terms_isFull_15 (Nat.le_refl _) (Nat.le_refl _) rfl
  · refine J_iconst X d_Terms_isFull_10 ?_
    refine J_goto (tgt := 15) X d_Terms_isFull_11 (by decide) ?_
    cases h
    exact J_ret E ⟨_, rfl, j_bool (Or.inr rfl)⟩ d_Terms_isFull_15 (Nat.le_refl _) (Nat.le_refl _) rfl

theorem d_Terms_last_0 : decode b_Terms_last 0 = .ok (.aload_n 0, 1) := by decide +kernel
theorem d_Terms_last_1 : decode b_Terms_last 1 = .ok (.getfield 34, 3) := by decide +kernel
theorem d_Terms_last_4 : decode b_Terms_last 4 = .ok (.iconst 1, 1) := by decide +kernel
theorem d_Terms_last_5 : decode b_Terms_last 5 = .ok (.isub, 1) := by decide +kernel
theorem d_Terms_last_6 : decode b_Terms_last 6 = .ok (.ireturn, 1) := by decide +kernel
def f_Terms_last (T_nodes : Int) : Option (Int) :=
  some (T_nodes - 1)
set_option maxHeartbeats 4000000 in
set_option maxRecDepth 100000 in
theorem c_Terms_last {l : Launch} {D : va_G} {cI cL cB : ClassId} {ad : Nat → Nat} {T_nodes : Int} {T_count : Int} {out : Int} (h : f_Terms_last T_nodes = some out) : CT jF0 true l D [(cI, .int), (cL, .long), (cB, .byte)] y_Terms_last w_Terms_last ({ frames := 0, cells := 0, slots := 0, locals := 0 } : Room) [.ref (ad 1)] [(ad 1, .inr (1, [.ref (ad 2), .ref (ad 3), .ref (ad 4), .ref (ad 5), .ref (ad 6), .int (zI T_nodes), .int (zI T_count)]))] (some (.int (zI out))) [(ad 1, .inr (1, [.ref (ad 2), .ref (ad 3), .ref (ad 4), .ref (ad 5), .ref (ad 6), .int (zI T_nodes), .int (zI T_count)]))] 0 0 := by
  refine CT_of_J (cc := b_Terms_last) (maxL := 1) (ret := (some .int)) jF0_k (plainFor_of_name (by decide)) rfl (Nat.le_of_ble_eq_true rfl) ?_
  intro K hKl hKD X E
  subst hKl; subst hKD
  unfold f_Terms_last at h
  refine J_aload_n X d_Terms_last_0 rfl 0 rfl ?_
  refine J_get X (j_in in_Terms) 0 rfl rfl 5 (by decide) (j_m own_Terms_last (by decide +kernel)) rfl d_Terms_last_1 ?_
  refine J_iconst X d_Terms_last_4 ?_
  refine J_isub X d_Terms_last_5 ?_
  cases h
  exact J_ret E ⟨_, rfl, rfl⟩ d_Terms_last_6 (Nat.le_refl _) (Nat.le_refl _) rfl

theorem d_Terms_has_0 : decode b_Terms_has 0 = .ok (.iload_n 1, 1) := by decide +kernel
theorem d_Terms_has_1 : decode b_Terms_has 1 = .ok (.ifCond .lt 15, 3) := by decide +kernel
theorem d_Terms_has_4 : decode b_Terms_has 4 = .ok (.iload_n 1, 1) := by decide +kernel
theorem d_Terms_has_5 : decode b_Terms_has 5 = .ok (.aload_n 0, 1) := by decide +kernel
theorem d_Terms_has_6 : decode b_Terms_has 6 = .ok (.getfield 34, 3) := by decide +kernel
theorem d_Terms_has_9 : decode b_Terms_has 9 = .ok (.if_icmp .ge 7, 3) := by decide +kernel
theorem d_Terms_has_12 : decode b_Terms_has 12 = .ok (.iconst 1, 1) := by decide +kernel
theorem d_Terms_has_13 : decode b_Terms_has 13 = .ok (.goto 4, 3) := by decide +kernel
theorem d_Terms_has_16 : decode b_Terms_has 16 = .ok (.iconst 0, 1) := by decide +kernel
theorem d_Terms_has_17 : decode b_Terms_has 17 = .ok (.ireturn, 1) := by decide +kernel
def f_Terms_has (T_nodes : Int) (p1 : Int) : Option (Int) :=
  if rI p1 = true then (if p1 < 0 then (
   some 0) else (
   if jr2 p1 T_nodes = true then (if T_nodes ≤ p1 then (
    some 0) else (
    some 1)) else none)) else none
set_option maxHeartbeats 4000000 in
set_option maxRecDepth 100000 in
theorem c_Terms_has {l : Launch} {D : va_G} {cI cL cB : ClassId} {ad : Nat → Nat} {T_nodes : Int} {T_count : Int} {p1 : Int} {out : Int} (h : f_Terms_has T_nodes p1 = some out) : CT jF0 true l D [(cI, .int), (cL, .long), (cB, .byte)] y_Terms_has w_Terms_has ({ frames := 0, cells := 0, slots := 0, locals := 0 } : Room) [.ref (ad 1), .int (zI p1)] [(ad 1, .inr (1, [.ref (ad 2), .ref (ad 3), .ref (ad 4), .ref (ad 5), .ref (ad 6), .int (zI T_nodes), .int (zI T_count)]))] (some (.int (zI out))) [(ad 1, .inr (1, [.ref (ad 2), .ref (ad 3), .ref (ad 4), .ref (ad 5), .ref (ad 6), .int (zI T_nodes), .int (zI T_count)]))] 0 0 := by
  refine CT_of_J (cc := b_Terms_has) (maxL := 2) (ret := (some .boolean)) jF0_k (plainFor_of_name (by decide)) rfl (Nat.le_of_ble_eq_true rfl) ?_
  intro K hKl hKD X E
  subst hKl; subst hKD
  unfold f_Terms_has at h
  refine J_iload_n X d_Terms_has_0 rfl 1 rfl ?_
  refine J_if_lt (tgt := 16) X d_Terms_has_1 (by decide) h (fun c1 h => ?_) (fun c1 h => ?_)
  · refine J_iconst X d_Terms_has_16 ?_
    cases h
    exact J_ret E ⟨_, rfl, j_bool (Or.inl rfl)⟩ d_Terms_has_17 (Nat.le_refl _) (Nat.le_refl _) rfl
  · refine J_iload_n X d_Terms_has_4 rfl 1 rfl ?_
    refine J_aload_n X d_Terms_has_5 rfl 0 rfl ?_
    refine J_get X (j_in in_Terms) 0 rfl rfl 5 (by decide) (j_m own_Terms_has (by decide +kernel)) rfl d_Terms_has_6 ?_
    refine J_icmp_ge (tgt := 16) X d_Terms_has_9 (by decide) h (fun c2 h => ?_) (fun c2 h => ?_)
    · refine J_iconst X d_Terms_has_16 ?_
      cases h
      exact J_ret E ⟨_, rfl, j_bool (Or.inl rfl)⟩ d_Terms_has_17 (Nat.le_refl _) (Nat.le_refl _) rfl
    · refine J_iconst X d_Terms_has_12 ?_
      refine J_goto (tgt := 17) X d_Terms_has_13 (by decide) ?_
      cases h
      exact J_ret E ⟨_, rfl, j_bool (Or.inr rfl)⟩ d_Terms_has_17 (Nat.le_refl _) (Nat.le_refl _) rfl

theorem d_Terms_lacksOf_0 : decode b_Terms_lacksOf 0 = .ok (.aload_n 0, 1) := by decide +kernel
theorem d_Terms_lacksOf_1 : decode b_Terms_lacksOf 1 = .ok (.iload_n 1, 1) := by decide +kernel
theorem d_Terms_lacksOf_2 : decode b_Terms_lacksOf 2 = .ok (.invokevirtual 55, 3) := by decide +kernel
theorem d_Terms_lacksOf_5 : decode b_Terms_lacksOf 5 = .ok (.ifCond .eq 12, 3) := by decide +kernel
theorem d_Terms_lacksOf_8 : decode b_Terms_lacksOf 8 = .ok (.aload_n 0, 1) := by decide +kernel
theorem d_Terms_lacksOf_9 : decode b_Terms_lacksOf 9 = .ok (.getfield 22, 3) := by decide +kernel
theorem d_Terms_lacksOf_12 : decode b_Terms_lacksOf 12 = .ok (.iload_n 1, 1) := by decide +kernel
theorem d_Terms_lacksOf_13 : decode b_Terms_lacksOf 13 = .ok (.iaload, 1) := by decide +kernel
theorem d_Terms_lacksOf_14 : decode b_Terms_lacksOf 14 = .ok (.goto 4, 3) := by decide +kernel
theorem d_Terms_lacksOf_17 : decode b_Terms_lacksOf 17 = .ok (.iconst (-1), 1) := by decide +kernel
theorem d_Terms_lacksOf_18 : decode b_Terms_lacksOf 18 = .ok (.ireturn, 1) := by decide +kernel
def f_Terms_lacksOf (T_nodes : Int) (T_lacks : Int → Int) (p1 : Int) : Option (Int) :=
  Option.bind (f_Terms_has T_nodes p1) (fun r1 =>
   if rI r1 = true then (if r1 = 0 then (
    some (-1)) else (
    if jix p1 200 = true then (
     some (T_lacks p1)) else none)) else none)
set_option maxHeartbeats 4000000 in
set_option maxRecDepth 100000 in
theorem c_Terms_lacksOf {l : Launch} {D : va_G} {cI cL cB : ClassId} {ad : Nat → Nat} {T_nodes : Int} {T_count : Int} {T_lacks : Int → Int} {p1 : Int} {out : Int} (h : f_Terms_lacksOf T_nodes T_lacks p1 = some out) : CT jF0 true l D [(cI, .int), (cL, .long), (cB, .byte)] y_Terms_lacksOf w_Terms_lacksOf ({ frames := 1, cells := 0, slots := 0, locals := 21 } : Room) [.ref (ad 1), .int (zI p1)] [(ad 1, .inr (1, [.ref (ad 2), .ref (ad 3), .ref (ad 4), .ref (ad 5), .ref (ad 6), .int (zI T_nodes), .int (zI T_count)])), (ad 5, .inl (cI, 200, .inl (zA T_lacks)))] (some (.int (zI out))) [(ad 1, .inr (1, [.ref (ad 2), .ref (ad 3), .ref (ad 4), .ref (ad 5), .ref (ad 6), .int (zI T_nodes), .int (zI T_count)])), (ad 5, .inl (cI, 200, .inl (zA T_lacks)))] 0 0 := by
  refine CT_of_J (cc := b_Terms_lacksOf) (maxL := 2) (ret := (some .int)) jF0_k (plainFor_of_name (by decide)) rfl (Nat.le_of_ble_eq_true rfl) ?_
  intro K hKl hKD X E
  subst hKl; subst hKD
  unfold f_Terms_lacksOf at h
  refine J_aload_n X d_Terms_lacksOf_0 rfl 0 rfl ?_
  refine J_iload_n X d_Terms_lacksOf_1 rfl 1 rfl ?_
  obtain ⟨r1, q2, h⟩ := wk_b h
  refine J_afterP (jrunV X (c_Terms_has (ad := ad) q2) jF0_k (fun _ _ _ _ => trivial) (jgV own_Terms_lacksOf (by decide +kernel)) rfl rfl rfl pd_Terms_has (by decide) [0] rfl (by decide) 0 1 rfl rfl rfl rfl (Nat.le_of_ble_eq_true rfl) d_Terms_lacksOf_2 (by decide)) ?_
  refine J_if_eq (tgt := 17) X d_Terms_lacksOf_5 (by decide) h (fun c3 h => ?_) (fun c3 h => ?_)
  · refine J_iconst X d_Terms_lacksOf_17 ?_
    cases h
    exact J_ret E ⟨_, rfl, rfl⟩ d_Terms_lacksOf_18 (Nat.le_refl _) (Nat.le_refl _) rfl
  · refine J_aload_n X d_Terms_lacksOf_8 rfl 0 rfl ?_
    refine J_get X (j_in in_Terms) 0 rfl rfl 3 (by decide) (j_m own_Terms_lacksOf (by decide +kernel)) rfl d_Terms_lacksOf_9 ?_
    refine J_iload_n X d_Terms_lacksOf_12 rfl 1 rfl ?_
    obtain ⟨g4, h⟩ := wk_g h
    refine J_iald X 1 0 rfl rfl g4 d_Terms_lacksOf_13 ?_
    refine J_goto (tgt := 18) X d_Terms_lacksOf_14 (by decide) ?_
    cases h
    exact J_ret E ⟨_, rfl, rfl⟩ d_Terms_lacksOf_18 (Nat.le_refl _) (Nat.le_refl _) rfl

theorem d_Terms_lacksOfLast_0 : decode b_Terms_lacksOfLast 0 = .ok (.aload_n 0, 1) := by decide +kernel
theorem d_Terms_lacksOfLast_1 : decode b_Terms_lacksOfLast 1 = .ok (.aload_n 0, 1) := by decide +kernel
theorem d_Terms_lacksOfLast_2 : decode b_Terms_lacksOfLast 2 = .ok (.invokevirtual 47, 3) := by decide +kernel
theorem d_Terms_lacksOfLast_5 : decode b_Terms_lacksOfLast 5 = .ok (.invokevirtual 51, 3) := by decide +kernel
theorem d_Terms_lacksOfLast_8 : decode b_Terms_lacksOfLast 8 = .ok (.ireturn, 1) := by decide +kernel
def f_Terms_lacksOfLast (T_nodes : Int) (T_lacks : Int → Int) : Option (Int) :=
  Option.bind (f_Terms_last T_nodes) (fun r1 =>
   Option.bind (f_Terms_lacksOf T_nodes T_lacks r1) (fun r3 =>
    some r3))
set_option maxHeartbeats 4000000 in
set_option maxRecDepth 100000 in
theorem c_Terms_lacksOfLast {l : Launch} {D : va_G} {cI cL cB : ClassId} {ad : Nat → Nat} {T_nodes : Int} {T_count : Int} {T_lacks : Int → Int} {out : Int} (h : f_Terms_lacksOfLast T_nodes T_lacks = some out) : CT jF0 true l D [(cI, .int), (cL, .long), (cB, .byte)] y_Terms_lacksOfLast w_Terms_lacksOfLast ({ frames := 2, cells := 0, slots := 0, locals := 42 } : Room) [.ref (ad 1)] [(ad 1, .inr (1, [.ref (ad 2), .ref (ad 3), .ref (ad 4), .ref (ad 5), .ref (ad 6), .int (zI T_nodes), .int (zI T_count)])), (ad 5, .inl (cI, 200, .inl (zA T_lacks)))] (some (.int (zI out))) [(ad 1, .inr (1, [.ref (ad 2), .ref (ad 3), .ref (ad 4), .ref (ad 5), .ref (ad 6), .int (zI T_nodes), .int (zI T_count)])), (ad 5, .inl (cI, 200, .inl (zA T_lacks)))] 0 0 := by
  refine CT_of_J (cc := b_Terms_lacksOfLast) (maxL := 1) (ret := (some .int)) jF0_k (plainFor_of_name (by decide)) rfl (Nat.le_of_ble_eq_true rfl) ?_
  intro K hKl hKD X E
  subst hKl; subst hKD
  unfold f_Terms_lacksOfLast at h
  refine J_aload_n X d_Terms_lacksOfLast_0 rfl 0 rfl ?_
  refine J_aload_n X d_Terms_lacksOfLast_1 rfl 0 rfl ?_
  obtain ⟨r1, q2, h⟩ := wk_b h
  refine J_afterP (jrunV X (c_Terms_last (ad := ad) q2) jF0_k (fun _ _ _ _ => trivial) (jgV own_Terms_lacksOfLast (by decide +kernel)) rfl rfl rfl pd_Terms_last (by decide) [0] rfl (by decide) 0 1 rfl rfl rfl rfl (Nat.le_of_ble_eq_true rfl) d_Terms_lacksOfLast_2 (by decide)) ?_
  obtain ⟨r3, q4, h⟩ := wk_b h
  refine J_afterP (jrunV X (c_Terms_lacksOf (ad := ad) q4) jF0_k (fun _ _ _ _ => trivial) (jgV own_Terms_lacksOfLast (by decide +kernel)) rfl rfl rfl pd_Terms_lacksOf (by decide) [0, 1] rfl (by decide) 0 1 rfl rfl rfl rfl (Nat.le_of_ble_eq_true rfl) d_Terms_lacksOfLast_5 (by decide)) ?_
  cases h
  exact J_ret E ⟨_, rfl, rfl⟩ d_Terms_lacksOfLast_8 (Nat.le_refl _) (Nat.le_refl _) rfl

theorem d_Terms_kindOf_0 : decode b_Terms_kindOf 0 = .ok (.aload_n 0, 1) := by decide +kernel
theorem d_Terms_kindOf_1 : decode b_Terms_kindOf 1 = .ok (.iload_n 1, 1) := by decide +kernel
theorem d_Terms_kindOf_2 : decode b_Terms_kindOf 2 = .ok (.invokevirtual 55, 3) := by decide +kernel
theorem d_Terms_kindOf_5 : decode b_Terms_kindOf 5 = .ok (.ifCond .eq 12, 3) := by decide +kernel
theorem d_Terms_kindOf_8 : decode b_Terms_kindOf 8 = .ok (.aload_n 0, 1) := by decide +kernel
theorem d_Terms_kindOf_9 : decode b_Terms_kindOf 9 = .ok (.getfield 9, 3) := by decide +kernel
theorem d_Terms_kindOf_12 : decode b_Terms_kindOf 12 = .ok (.iload_n 1, 1) := by decide +kernel
theorem d_Terms_kindOf_13 : decode b_Terms_kindOf 13 = .ok (.iaload, 1) := by decide +kernel
theorem d_Terms_kindOf_14 : decode b_Terms_kindOf 14 = .ok (.goto 4, 3) := by decide +kernel
theorem d_Terms_kindOf_17 : decode b_Terms_kindOf 17 = .ok (.iconst (-1), 1) := by decide +kernel
theorem d_Terms_kindOf_18 : decode b_Terms_kindOf 18 = .ok (.ireturn, 1) := by decide +kernel
def f_Terms_kindOf (T_nodes : Int) (T_kinds : Int → Int) (p1 : Int) : Option (Int) :=
  Option.bind (f_Terms_has T_nodes p1) (fun r1 =>
   if rI r1 = true then (if r1 = 0 then (
    some (-1)) else (
    if jix p1 200 = true then (
     some (T_kinds p1)) else none)) else none)
set_option maxHeartbeats 4000000 in
set_option maxRecDepth 100000 in
theorem c_Terms_kindOf {l : Launch} {D : va_G} {cI cL cB : ClassId} {ad : Nat → Nat} {T_nodes : Int} {T_count : Int} {T_kinds : Int → Int} {p1 : Int} {out : Int} (h : f_Terms_kindOf T_nodes T_kinds p1 = some out) : CT jF0 true l D [(cI, .int), (cL, .long), (cB, .byte)] y_Terms_kindOf w_Terms_kindOf ({ frames := 1, cells := 0, slots := 0, locals := 21 } : Room) [.ref (ad 1), .int (zI p1)] [(ad 1, .inr (1, [.ref (ad 2), .ref (ad 3), .ref (ad 4), .ref (ad 5), .ref (ad 6), .int (zI T_nodes), .int (zI T_count)])), (ad 2, .inl (cI, 200, .inl (zA T_kinds)))] (some (.int (zI out))) [(ad 1, .inr (1, [.ref (ad 2), .ref (ad 3), .ref (ad 4), .ref (ad 5), .ref (ad 6), .int (zI T_nodes), .int (zI T_count)])), (ad 2, .inl (cI, 200, .inl (zA T_kinds)))] 0 0 := by
  refine CT_of_J (cc := b_Terms_kindOf) (maxL := 2) (ret := (some .int)) jF0_k (plainFor_of_name (by decide)) rfl (Nat.le_of_ble_eq_true rfl) ?_
  intro K hKl hKD X E
  subst hKl; subst hKD
  unfold f_Terms_kindOf at h
  refine J_aload_n X d_Terms_kindOf_0 rfl 0 rfl ?_
  refine J_iload_n X d_Terms_kindOf_1 rfl 1 rfl ?_
  obtain ⟨r1, q2, h⟩ := wk_b h
  refine J_afterP (jrunV X (c_Terms_has (ad := ad) q2) jF0_k (fun _ _ _ _ => trivial) (jgV own_Terms_kindOf (by decide +kernel)) rfl rfl rfl pd_Terms_has (by decide) [0] rfl (by decide) 0 1 rfl rfl rfl rfl (Nat.le_of_ble_eq_true rfl) d_Terms_kindOf_2 (by decide)) ?_
  refine J_if_eq (tgt := 17) X d_Terms_kindOf_5 (by decide) h (fun c3 h => ?_) (fun c3 h => ?_)
  · refine J_iconst X d_Terms_kindOf_17 ?_
    cases h
    exact J_ret E ⟨_, rfl, rfl⟩ d_Terms_kindOf_18 (Nat.le_refl _) (Nat.le_refl _) rfl
  · refine J_aload_n X d_Terms_kindOf_8 rfl 0 rfl ?_
    refine J_get X (j_in in_Terms) 0 rfl rfl 0 (by decide) (j_m own_Terms_kindOf (by decide +kernel)) rfl d_Terms_kindOf_9 ?_
    refine J_iload_n X d_Terms_kindOf_12 rfl 1 rfl ?_
    obtain ⟨g4, h⟩ := wk_g h
    refine J_iald X 1 0 rfl rfl g4 d_Terms_kindOf_13 ?_
    refine J_goto (tgt := 18) X d_Terms_kindOf_14 (by decide) ?_
    cases h
    exact J_ret E ⟨_, rfl, rfl⟩ d_Terms_kindOf_18 (Nat.le_refl _) (Nat.le_refl _) rfl

theorem d_Terms_argOf_0 : decode b_Terms_argOf 0 = .ok (.aload_n 0, 1) := by decide +kernel
theorem d_Terms_argOf_1 : decode b_Terms_argOf 1 = .ok (.iload_n 1, 1) := by decide +kernel
theorem d_Terms_argOf_2 : decode b_Terms_argOf 2 = .ok (.invokevirtual 55, 3) := by decide +kernel
theorem d_Terms_argOf_5 : decode b_Terms_argOf 5 = .ok (.ifCond .eq 12, 3) := by decide +kernel
theorem d_Terms_argOf_8 : decode b_Terms_argOf 8 = .ok (.aload_n 0, 1) := by decide +kernel
theorem d_Terms_argOf_9 : decode b_Terms_argOf 9 = .ok (.getfield 15, 3) := by decide +kernel
theorem d_Terms_argOf_12 : decode b_Terms_argOf 12 = .ok (.iload_n 1, 1) := by decide +kernel
theorem d_Terms_argOf_13 : decode b_Terms_argOf 13 = .ok (.laload, 1) := by decide +kernel
theorem d_Terms_argOf_14 : decode b_Terms_argOf 14 = .ok (.goto 4, 3) := by decide +kernel
theorem d_Terms_argOf_17 : decode b_Terms_argOf 17 = .ok (.lconst 0, 1) := by decide +kernel
theorem d_Terms_argOf_18 : decode b_Terms_argOf 18 = .ok (.lreturn, 1) := by decide +kernel
def f_Terms_argOf (T_nodes : Int) (T_args : Int → Int) (p1 : Int) : Option (Int) :=
  Option.bind (f_Terms_has T_nodes p1) (fun r1 =>
   if rI r1 = true then (if r1 = 0 then (
    some 0) else (
    if jix p1 200 = true then (
     some (T_args p1)) else none)) else none)
set_option maxHeartbeats 4000000 in
set_option maxRecDepth 100000 in
theorem c_Terms_argOf {l : Launch} {D : va_G} {cI cL cB : ClassId} {ad : Nat → Nat} {T_nodes : Int} {T_count : Int} {T_args : Int → Int} {p1 : Int} {out : Int} (h : f_Terms_argOf T_nodes T_args p1 = some out) : CT jF0 true l D [(cI, .int), (cL, .long), (cB, .byte)] y_Terms_argOf w_Terms_argOf ({ frames := 1, cells := 0, slots := 0, locals := 21 } : Room) [.ref (ad 1), .int (zI p1)] [(ad 1, .inr (1, [.ref (ad 2), .ref (ad 3), .ref (ad 4), .ref (ad 5), .ref (ad 6), .int (zI T_nodes), .int (zI T_count)])), (ad 3, .inl (cL, 200, .inr (.inl (zB T_args))))] (some (.long (zL out))) [(ad 1, .inr (1, [.ref (ad 2), .ref (ad 3), .ref (ad 4), .ref (ad 5), .ref (ad 6), .int (zI T_nodes), .int (zI T_count)])), (ad 3, .inl (cL, 200, .inr (.inl (zB T_args))))] 0 0 := by
  refine CT_of_J (cc := b_Terms_argOf) (maxL := 2) (ret := (some .long)) jF0_k (plainFor_of_name (by decide)) rfl (Nat.le_of_ble_eq_true rfl) ?_
  intro K hKl hKD X E
  subst hKl; subst hKD
  unfold f_Terms_argOf at h
  refine J_aload_n X d_Terms_argOf_0 rfl 0 rfl ?_
  refine J_iload_n X d_Terms_argOf_1 rfl 1 rfl ?_
  obtain ⟨r1, q2, h⟩ := wk_b h
  refine J_afterP (jrunV X (c_Terms_has (ad := ad) q2) jF0_k (fun _ _ _ _ => trivial) (jgV own_Terms_argOf (by decide +kernel)) rfl rfl rfl pd_Terms_has (by decide) [0] rfl (by decide) 0 1 rfl rfl rfl rfl (Nat.le_of_ble_eq_true rfl) d_Terms_argOf_2 (by decide)) ?_
  refine J_if_eq (tgt := 17) X d_Terms_argOf_5 (by decide) h (fun c3 h => ?_) (fun c3 h => ?_)
  · refine J_lconst (v := 0) X d_Terms_argOf_17 (by decide) ?_
    cases h
    exact J_ret E rfl d_Terms_argOf_18 (Nat.le_refl _) (Nat.le_refl _) rfl
  · refine J_aload_n X d_Terms_argOf_8 rfl 0 rfl ?_
    refine J_get X (j_in in_Terms) 0 rfl rfl 1 (by decide) (j_m own_Terms_argOf (by decide +kernel)) rfl d_Terms_argOf_9 ?_
    refine J_iload_n X d_Terms_argOf_12 rfl 1 rfl ?_
    obtain ⟨g4, h⟩ := wk_g h
    refine J_lald X 1 1 rfl rfl g4 d_Terms_argOf_13 ?_
    refine J_goto (tgt := 18) X d_Terms_argOf_14 (by decide) ?_
    cases h
    exact J_ret E rfl d_Terms_argOf_18 (Nat.le_refl _) (Nat.le_refl _) rfl

theorem d_Terms_firstOf_0 : decode b_Terms_firstOf 0 = .ok (.aload_n 0, 1) := by decide +kernel
theorem d_Terms_firstOf_1 : decode b_Terms_firstOf 1 = .ok (.iload_n 1, 1) := by decide +kernel
theorem d_Terms_firstOf_2 : decode b_Terms_firstOf 2 = .ok (.invokevirtual 55, 3) := by decide +kernel
theorem d_Terms_firstOf_5 : decode b_Terms_firstOf 5 = .ok (.ifCond .eq 12, 3) := by decide +kernel
theorem d_Terms_firstOf_8 : decode b_Terms_firstOf 8 = .ok (.aload_n 0, 1) := by decide +kernel
theorem d_Terms_firstOf_9 : decode b_Terms_firstOf 9 = .ok (.getfield 19, 3) := by decide +kernel
theorem d_Terms_firstOf_12 : decode b_Terms_firstOf 12 = .ok (.iload_n 1, 1) := by decide +kernel
theorem d_Terms_firstOf_13 : decode b_Terms_firstOf 13 = .ok (.iaload, 1) := by decide +kernel
theorem d_Terms_firstOf_14 : decode b_Terms_firstOf 14 = .ok (.goto 4, 3) := by decide +kernel
theorem d_Terms_firstOf_17 : decode b_Terms_firstOf 17 = .ok (.iconst 0, 1) := by decide +kernel
theorem d_Terms_firstOf_18 : decode b_Terms_firstOf 18 = .ok (.ireturn, 1) := by decide +kernel
def f_Terms_firstOf (T_nodes : Int) (T_firsts : Int → Int) (p1 : Int) : Option (Int) :=
  Option.bind (f_Terms_has T_nodes p1) (fun r1 =>
   if rI r1 = true then (if r1 = 0 then (
    some 0) else (
    if jix p1 200 = true then (
     some (T_firsts p1)) else none)) else none)
set_option maxHeartbeats 4000000 in
set_option maxRecDepth 100000 in
theorem c_Terms_firstOf {l : Launch} {D : va_G} {cI cL cB : ClassId} {ad : Nat → Nat} {T_nodes : Int} {T_count : Int} {T_firsts : Int → Int} {p1 : Int} {out : Int} (h : f_Terms_firstOf T_nodes T_firsts p1 = some out) : CT jF0 true l D [(cI, .int), (cL, .long), (cB, .byte)] y_Terms_firstOf w_Terms_firstOf ({ frames := 1, cells := 0, slots := 0, locals := 21 } : Room) [.ref (ad 1), .int (zI p1)] [(ad 1, .inr (1, [.ref (ad 2), .ref (ad 3), .ref (ad 4), .ref (ad 5), .ref (ad 6), .int (zI T_nodes), .int (zI T_count)])), (ad 4, .inl (cI, 200, .inl (zA T_firsts)))] (some (.int (zI out))) [(ad 1, .inr (1, [.ref (ad 2), .ref (ad 3), .ref (ad 4), .ref (ad 5), .ref (ad 6), .int (zI T_nodes), .int (zI T_count)])), (ad 4, .inl (cI, 200, .inl (zA T_firsts)))] 0 0 := by
  refine CT_of_J (cc := b_Terms_firstOf) (maxL := 2) (ret := (some .int)) jF0_k (plainFor_of_name (by decide)) rfl (Nat.le_of_ble_eq_true rfl) ?_
  intro K hKl hKD X E
  subst hKl; subst hKD
  unfold f_Terms_firstOf at h
  refine J_aload_n X d_Terms_firstOf_0 rfl 0 rfl ?_
  refine J_iload_n X d_Terms_firstOf_1 rfl 1 rfl ?_
  obtain ⟨r1, q2, h⟩ := wk_b h
  refine J_afterP (jrunV X (c_Terms_has (ad := ad) q2) jF0_k (fun _ _ _ _ => trivial) (jgV own_Terms_firstOf (by decide +kernel)) rfl rfl rfl pd_Terms_has (by decide) [0] rfl (by decide) 0 1 rfl rfl rfl rfl (Nat.le_of_ble_eq_true rfl) d_Terms_firstOf_2 (by decide)) ?_
  refine J_if_eq (tgt := 17) X d_Terms_firstOf_5 (by decide) h (fun c3 h => ?_) (fun c3 h => ?_)
  · refine J_iconst X d_Terms_firstOf_17 ?_
    cases h
    exact J_ret E ⟨_, rfl, rfl⟩ d_Terms_firstOf_18 (Nat.le_refl _) (Nat.le_refl _) rfl
  · refine J_aload_n X d_Terms_firstOf_8 rfl 0 rfl ?_
    refine J_get X (j_in in_Terms) 0 rfl rfl 2 (by decide) (j_m own_Terms_firstOf (by decide +kernel)) rfl d_Terms_firstOf_9 ?_
    refine J_iload_n X d_Terms_firstOf_12 rfl 1 rfl ?_
    obtain ⟨g4, h⟩ := wk_g h
    refine J_iald X 1 0 rfl rfl g4 d_Terms_firstOf_13 ?_
    refine J_goto (tgt := 18) X d_Terms_firstOf_14 (by decide) ?_
    cases h
    exact J_ret E ⟨_, rfl, rfl⟩ d_Terms_firstOf_18 (Nat.le_refl _) (Nat.le_refl _) rfl

theorem d_Terms_lastPartOf_0 : decode b_Terms_lastPartOf 0 = .ok (.iload_n 1, 1) := by decide +kernel
theorem d_Terms_lastPartOf_1 : decode b_Terms_lastPartOf 1 = .ok (.iconst 1, 1) := by decide +kernel
theorem d_Terms_lastPartOf_2 : decode b_Terms_lastPartOf 2 = .ok (.isub, 1) := by decide +kernel
theorem d_Terms_lastPartOf_3 : decode b_Terms_lastPartOf 3 = .ok (.ireturn, 1) := by decide +kernel
def f_Terms_lastPartOf (p1 : Int) : Option (Int) :=
  some (p1 - 1)
set_option maxHeartbeats 4000000 in
set_option maxRecDepth 100000 in
theorem c_Terms_lastPartOf {l : Launch} {D : va_G} {cI cL cB : ClassId} {ad : Nat → Nat} {T_nodes : Int} {T_count : Int} {p1 : Int} {out : Int} (h : f_Terms_lastPartOf p1 = some out) : CT jF0 true l D [(cI, .int), (cL, .long), (cB, .byte)] y_Terms_lastPartOf w_Terms_lastPartOf ({ frames := 0, cells := 0, slots := 0, locals := 0 } : Room) [.ref (ad 1), .int (zI p1)] [(ad 1, .inr (1, [.ref (ad 2), .ref (ad 3), .ref (ad 4), .ref (ad 5), .ref (ad 6), .int (zI T_nodes), .int (zI T_count)]))] (some (.int (zI out))) [(ad 1, .inr (1, [.ref (ad 2), .ref (ad 3), .ref (ad 4), .ref (ad 5), .ref (ad 6), .int (zI T_nodes), .int (zI T_count)]))] 0 0 := by
  refine CT_of_J (cc := b_Terms_lastPartOf) (maxL := 2) (ret := (some .int)) jF0_k (plainFor_of_name (by decide)) rfl (Nat.le_of_ble_eq_true rfl) ?_
  intro K hKl hKD X E
  subst hKl; subst hKD
  unfold f_Terms_lastPartOf at h
  refine J_iload_n X d_Terms_lastPartOf_0 rfl 1 rfl ?_
  refine J_iconst X d_Terms_lastPartOf_1 ?_
  refine J_isub X d_Terms_lastPartOf_2 ?_
  cases h
  exact J_ret E ⟨_, rfl, rfl⟩ d_Terms_lastPartOf_3 (Nat.le_refl _) (Nat.le_refl _) rfl

theorem d_Terms_functionOf_0 : decode b_Terms_functionOf 0 = .ok (.aload_n 0, 1) := by decide +kernel
theorem d_Terms_functionOf_1 : decode b_Terms_functionOf 1 = .ok (.aload_n 0, 1) := by decide +kernel
theorem d_Terms_functionOf_2 : decode b_Terms_functionOf 2 = .ok (.iload_n 1, 1) := by decide +kernel
theorem d_Terms_functionOf_3 : decode b_Terms_functionOf 3 = .ok (.invokevirtual 59, 3) := by decide +kernel
theorem d_Terms_functionOf_6 : decode b_Terms_functionOf 6 = .ok (.invokevirtual 62, 3) := by decide +kernel
theorem d_Terms_functionOf_9 : decode b_Terms_functionOf 9 = .ok (.iconst 1, 1) := by decide +kernel
theorem d_Terms_functionOf_10 : decode b_Terms_functionOf 10 = .ok (.isub, 1) := by decide +kernel
theorem d_Terms_functionOf_11 : decode b_Terms_functionOf 11 = .ok (.ireturn, 1) := by decide +kernel
def f_Terms_functionOf (T_nodes : Int) (T_firsts : Int → Int) (p1 : Int) : Option (Int) :=
  Option.bind (f_Terms_lastPartOf p1) (fun r1 =>
   Option.bind (f_Terms_firstOf T_nodes T_firsts r1) (fun r3 =>
    some (r3 - 1)))
set_option maxHeartbeats 4000000 in
set_option maxRecDepth 100000 in
theorem c_Terms_functionOf {l : Launch} {D : va_G} {cI cL cB : ClassId} {ad : Nat → Nat} {T_nodes : Int} {T_count : Int} {T_firsts : Int → Int} {p1 : Int} {out : Int} (h : f_Terms_functionOf T_nodes T_firsts p1 = some out) : CT jF0 true l D [(cI, .int), (cL, .long), (cB, .byte)] y_Terms_functionOf w_Terms_functionOf ({ frames := 2, cells := 0, slots := 0, locals := 42 } : Room) [.ref (ad 1), .int (zI p1)] [(ad 1, .inr (1, [.ref (ad 2), .ref (ad 3), .ref (ad 4), .ref (ad 5), .ref (ad 6), .int (zI T_nodes), .int (zI T_count)])), (ad 4, .inl (cI, 200, .inl (zA T_firsts)))] (some (.int (zI out))) [(ad 1, .inr (1, [.ref (ad 2), .ref (ad 3), .ref (ad 4), .ref (ad 5), .ref (ad 6), .int (zI T_nodes), .int (zI T_count)])), (ad 4, .inl (cI, 200, .inl (zA T_firsts)))] 0 0 := by
  refine CT_of_J (cc := b_Terms_functionOf) (maxL := 2) (ret := (some .int)) jF0_k (plainFor_of_name (by decide)) rfl (Nat.le_of_ble_eq_true rfl) ?_
  intro K hKl hKD X E
  subst hKl; subst hKD
  unfold f_Terms_functionOf at h
  refine J_aload_n X d_Terms_functionOf_0 rfl 0 rfl ?_
  refine J_aload_n X d_Terms_functionOf_1 rfl 0 rfl ?_
  refine J_iload_n X d_Terms_functionOf_2 rfl 1 rfl ?_
  obtain ⟨r1, q2, h⟩ := wk_b h
  refine J_afterP (jrunV X (c_Terms_lastPartOf (ad := ad) q2) jF0_k (fun _ _ _ _ => trivial) (jgV own_Terms_functionOf (by decide +kernel)) rfl rfl rfl pd_Terms_lastPartOf (by decide) [0] rfl (by decide) 0 1 rfl rfl rfl rfl (Nat.le_of_ble_eq_true rfl) d_Terms_functionOf_3 (by decide)) ?_
  obtain ⟨r3, q4, h⟩ := wk_b h
  refine J_afterP (jrunV X (c_Terms_firstOf (ad := ad) q4) jF0_k (fun _ _ _ _ => trivial) (jgV own_Terms_functionOf (by decide +kernel)) rfl rfl rfl pd_Terms_firstOf (by decide) [0, 1] rfl (by decide) 0 1 rfl rfl rfl rfl (Nat.le_of_ble_eq_true rfl) d_Terms_functionOf_6 (by decide)) ?_
  refine J_iconst X d_Terms_functionOf_9 ?_
  refine J_isub X d_Terms_functionOf_10 ?_
  cases h
  exact J_ret E ⟨_, rfl, rfl⟩ d_Terms_functionOf_11 (Nat.le_refl _) (Nat.le_refl _) rfl

theorem d_Terms_textAt_0 : decode b_Terms_textAt 0 = .ok (.aload_n 0, 1) := by decide +kernel
theorem d_Terms_textAt_1 : decode b_Terms_textAt 1 = .ok (.getfield 30, 3) := by decide +kernel
theorem d_Terms_textAt_4 : decode b_Terms_textAt 4 = .ok (.iload_n 1, 1) := by decide +kernel
theorem d_Terms_textAt_5 : decode b_Terms_textAt 5 = .ok (.bipush 64, 2) := by decide +kernel
theorem d_Terms_textAt_7 : decode b_Terms_textAt 7 = .ok (.imul, 1) := by decide +kernel
theorem d_Terms_textAt_8 : decode b_Terms_textAt 8 = .ok (.iload_n 2, 1) := by decide +kernel
theorem d_Terms_textAt_9 : decode b_Terms_textAt 9 = .ok (.iadd, 1) := by decide +kernel
theorem d_Terms_textAt_10 : decode b_Terms_textAt 10 = .ok (.invokevirtual 65, 3) := by decide +kernel
theorem d_Terms_textAt_13 : decode b_Terms_textAt 13 = .ok (.ireturn, 1) := by decide +kernel
def f_Terms_textAt (TB_row : Int → Int) (p1 : Int) (p2 : Int) : Option (Int) :=
  Option.bind (f_ByteRow_at 12800 TB_row ((p1 * 64) + p2)) (fun r1 =>
   some r1)
set_option maxHeartbeats 4000000 in
set_option maxRecDepth 100000 in
theorem c_Terms_textAt {l : Launch} {D : va_G} {cI cL cB : ClassId} {ad : Nat → Nat} {T_nodes : Int} {T_count : Int} {TB_top : Int} {TB_row : Int → Int} {p1 : Int} {p2 : Int} {out : Int} (h : f_Terms_textAt TB_row p1 p2 = some out) : CT jF0 true l D [(cI, .int), (cL, .long), (cB, .byte)] y_Terms_textAt w_Terms_textAt ({ frames := 1, cells := 0, slots := 0, locals := 21 } : Room) [.ref (ad 1), .int (zI p1), .int (zI p2)] [(ad 1, .inr (1, [.ref (ad 2), .ref (ad 3), .ref (ad 4), .ref (ad 5), .ref (ad 6), .int (zI T_nodes), .int (zI T_count)])), (ad 6, .inr (2, [.ref (ad 7), .int (zI TB_top)])), (ad 7, .inl (cB, 12800, .inl (zA TB_row)))] (some (.int (zI out))) [(ad 1, .inr (1, [.ref (ad 2), .ref (ad 3), .ref (ad 4), .ref (ad 5), .ref (ad 6), .int (zI T_nodes), .int (zI T_count)])), (ad 6, .inr (2, [.ref (ad 7), .int (zI TB_top)])), (ad 7, .inl (cB, 12800, .inl (zA TB_row)))] 0 0 := by
  refine CT_of_J (cc := b_Terms_textAt) (maxL := 3) (ret := (some .int)) jF0_k (plainFor_of_name (by decide)) rfl (Nat.le_of_ble_eq_true rfl) ?_
  intro K hKl hKD X E
  subst hKl; subst hKD
  unfold f_Terms_textAt at h
  refine J_aload_n X d_Terms_textAt_0 rfl 0 rfl ?_
  refine J_get X (j_in in_Terms) 0 rfl rfl 4 (by decide) (j_m own_Terms_textAt (by decide +kernel)) rfl d_Terms_textAt_1 ?_
  refine J_iload_n X d_Terms_textAt_4 rfl 1 rfl ?_
  refine J_bipush X d_Terms_textAt_5 (by decide) ?_
  refine J_imul X d_Terms_textAt_7 ?_
  refine J_iload_n X d_Terms_textAt_8 rfl 2 rfl ?_
  refine J_iadd X d_Terms_textAt_9 ?_
  obtain ⟨r1, q2, h⟩ := wk_b h
  refine J_afterP (jrunV X (c_ByteRow_at (xa := ad 6) (xb := ad 7) q2) jF0_k (fun _ _ _ _ => trivial) (jgV own_Terms_textAt (by decide +kernel)) rfl rfl rfl pd_ByteRow_at (by decide) [1, 2] rfl (by decide) 0 2 rfl rfl rfl rfl (Nat.le_of_ble_eq_true rfl) d_Terms_textAt_10 (by decide)) ?_
  cases h
  exact J_ret E ⟨_, rfl, rfl⟩ d_Terms_textAt_13 (Nat.le_refl _) (Nat.le_refl _) rfl

theorem d_Terms_forget_0 : decode b_Terms_forget 0 = .ok (.aload_n 0, 1) := by decide +kernel
theorem d_Terms_forget_1 : decode b_Terms_forget 1 = .ok (.iconst 0, 1) := by decide +kernel
theorem d_Terms_forget_2 : decode b_Terms_forget 2 = .ok (.putfield 34, 3) := by decide +kernel
theorem d_Terms_forget_5 : decode b_Terms_forget 5 = .ok (.aload_n 0, 1) := by decide +kernel
theorem d_Terms_forget_6 : decode b_Terms_forget 6 = .ok (.iconst 0, 1) := by decide +kernel
theorem d_Terms_forget_7 : decode b_Terms_forget 7 = .ok (.putfield 38, 3) := by decide +kernel
theorem d_Terms_forget_10 : decode b_Terms_forget 10 = .ok (.return_, 1) := by decide +kernel
def f_Terms_forget (T_nodes : Int) (T_count : Int) : Option (Int × Int) :=
  some (0, 0)
set_option maxHeartbeats 4000000 in
set_option maxRecDepth 100000 in
theorem c_Terms_forget {l : Launch} {D : va_G} {cI cL cB : ClassId} {ad : Nat → Nat} {T_nodes : Int} {T_count : Int} {out : Int × Int} (h : f_Terms_forget T_nodes T_count = some out) : CT jF0 false l D [(cI, .int), (cL, .long), (cB, .byte)] y_Terms_forget w_Terms_forget ({ frames := 0, cells := 0, slots := 0, locals := 0 } : Room) [.ref (ad 1)] [(ad 1, .inr (1, [.ref (ad 2), .ref (ad 3), .ref (ad 4), .ref (ad 5), .ref (ad 6), .int (zI T_nodes), .int (zI T_count)]))] none [(ad 1, .inr (1, [.ref (ad 2), .ref (ad 3), .ref (ad 4), .ref (ad 5), .ref (ad 6), .int (zI (out.1)), .int (zI (out.2))]))] 0 0 := by
  refine CT_of_J (cc := b_Terms_forget) (maxL := 1) (ret := none) jF0_k (plainFor_of_name (by decide)) rfl (Nat.le_of_ble_eq_true rfl) ?_
  intro K hKl hKD X E
  subst hKl; subst hKD
  unfold f_Terms_forget at h
  refine J_aload_n X d_Terms_forget_0 rfl 0 rfl ?_
  refine J_iconst X d_Terms_forget_1 ?_
  refine J_put (ws' := [(ad 1, .inr (1, [.ref (ad 2), .ref (ad 3), .ref (ad 4), .ref (ad 5), .ref (ad 6), .int (zI 0), .int (zI T_count)]))]) X (j_in in_Terms) ty_Terms tok_Terms nm_Terms 0 rfl rfl 5 (by decide) (j_m own_Terms_forget (by decide +kernel)) rfl rfl rfl (Nat.le_of_ble_eq_true rfl) d_Terms_forget_2 rfl ?_
  refine J_aload_n X d_Terms_forget_5 rfl 0 rfl ?_
  refine J_iconst X d_Terms_forget_6 ?_
  refine J_put (ws' := [(ad 1, .inr (1, [.ref (ad 2), .ref (ad 3), .ref (ad 4), .ref (ad 5), .ref (ad 6), .int (zI 0), .int (zI 0)]))]) X (j_in in_Terms) ty_Terms tok_Terms nm_Terms 0 rfl rfl 6 (by decide) (j_m own_Terms_forget (by decide +kernel)) rfl rfl rfl (Nat.le_of_ble_eq_true rfl) d_Terms_forget_7 rfl ?_
  cases h
  exact J_ret E rfl d_Terms_forget_10 (Nat.le_refl _) (Nat.le_refl _) rfl

theorem d_Terms_firstOfNew_0 : decode b_Terms_firstOfNew 0 = .ok (.iload_n 1, 1) := by decide +kernel
theorem d_Terms_firstOfNew_1 : decode b_Terms_firstOfNew 1 = .ok (.iconst 2, 1) := by decide +kernel
theorem d_Terms_firstOfNew_2 : decode b_Terms_firstOfNew 2 = .ok (.if_icmp .ne 16, 3) := by decide +kernel
theorem d_Terms_firstOfNew_5 : decode b_Terms_firstOfNew 5 = .ok (.aload_n 0, 1) := by decide +kernel
theorem d_Terms_firstOfNew_6 : decode b_Terms_firstOfNew 6 = .ok (.aload_n 0, 1) := by decide +kernel
theorem d_Terms_firstOfNew_7 : decode b_Terms_firstOfNew 7 = .ok (.aload_n 0, 1) := by decide +kernel
theorem d_Terms_firstOfNew_8 : decode b_Terms_firstOfNew 8 = .ok (.getfield 34, 3) := by decide +kernel
theorem d_Terms_firstOfNew_11 : decode b_Terms_firstOfNew 11 = .ok (.invokevirtual 98, 3) := by decide +kernel
theorem d_Terms_firstOfNew_14 : decode b_Terms_firstOfNew 14 = .ok (.invokevirtual 62, 3) := by decide +kernel
theorem d_Terms_firstOfNew_17 : decode b_Terms_firstOfNew 17 = .ok (.ireturn, 1) := by decide +kernel
theorem d_Terms_firstOfNew_18 : decode b_Terms_firstOfNew 18 = .ok (.iload_n 1, 1) := by decide +kernel
theorem d_Terms_firstOfNew_19 : decode b_Terms_firstOfNew 19 = .ok (.invokestatic 72, 3) := by decide +kernel
theorem d_Terms_firstOfNew_22 : decode b_Terms_firstOfNew 22 = .ok (.iconst 1, 1) := by decide +kernel
theorem d_Terms_firstOfNew_23 : decode b_Terms_firstOfNew 23 = .ok (.if_icmp .ne 18, 3) := by decide +kernel
theorem d_Terms_firstOfNew_26 : decode b_Terms_firstOfNew 26 = .ok (.aload_n 0, 1) := by decide +kernel
theorem d_Terms_firstOfNew_27 : decode b_Terms_firstOfNew 27 = .ok (.aload_n 0, 1) := by decide +kernel
theorem d_Terms_firstOfNew_28 : decode b_Terms_firstOfNew 28 = .ok (.aload_n 0, 1) := by decide +kernel
theorem d_Terms_firstOfNew_29 : decode b_Terms_firstOfNew 29 = .ok (.getfield 34, 3) := by decide +kernel
theorem d_Terms_firstOfNew_32 : decode b_Terms_firstOfNew 32 = .ok (.invokevirtual 59, 3) := by decide +kernel
theorem d_Terms_firstOfNew_35 : decode b_Terms_firstOfNew 35 = .ok (.invokevirtual 62, 3) := by decide +kernel
theorem d_Terms_firstOfNew_38 : decode b_Terms_firstOfNew 38 = .ok (.goto 7, 3) := by decide +kernel
theorem d_Terms_firstOfNew_41 : decode b_Terms_firstOfNew 41 = .ok (.aload_n 0, 1) := by decide +kernel
theorem d_Terms_firstOfNew_42 : decode b_Terms_firstOfNew 42 = .ok (.getfield 34, 3) := by decide +kernel
theorem d_Terms_firstOfNew_45 : decode b_Terms_firstOfNew 45 = .ok (.ireturn, 1) := by decide +kernel
def f_Terms_firstOfNew (T_nodes : Int) (T_firsts : Int → Int) (p1 : Int) : Option (Int) :=
  if jr2 p1 2 = true then (if p1 = 2 then (
   Option.bind (f_Terms_functionOf T_nodes T_firsts T_nodes) (fun r9 =>
    Option.bind (f_Terms_firstOf T_nodes T_firsts r9) (fun r11 =>
     some r11))) else (
   Option.bind (f_Terms_partsOf p1) (fun r2 =>
    if jr2 r2 1 = true then (if r2 = 1 then (
     Option.bind (f_Terms_lastPartOf T_nodes) (fun r5 =>
      Option.bind (f_Terms_firstOf T_nodes T_firsts r5) (fun r7 =>
       some r7))) else (
     some T_nodes)) else none))) else none
set_option maxHeartbeats 4000000 in
set_option maxRecDepth 100000 in
theorem c_Terms_firstOfNew {l : Launch} {D : va_G} {cI cL cB : ClassId} {ad : Nat → Nat} {T_nodes : Int} {T_count : Int} {T_firsts : Int → Int} {p1 : Int} {out : Int} (h : f_Terms_firstOfNew T_nodes T_firsts p1 = some out) : CT jF0 true l D [(cI, .int), (cL, .long), (cB, .byte)] y_Terms_firstOfNew w_Terms_firstOfNew ({ frames := 3, cells := 0, slots := 0, locals := 63 } : Room) [.ref (ad 1), .int (zI p1)] [(ad 1, .inr (1, [.ref (ad 2), .ref (ad 3), .ref (ad 4), .ref (ad 5), .ref (ad 6), .int (zI T_nodes), .int (zI T_count)])), (ad 4, .inl (cI, 200, .inl (zA T_firsts)))] (some (.int (zI out))) [(ad 1, .inr (1, [.ref (ad 2), .ref (ad 3), .ref (ad 4), .ref (ad 5), .ref (ad 6), .int (zI T_nodes), .int (zI T_count)])), (ad 4, .inl (cI, 200, .inl (zA T_firsts)))] 0 0 := by
  refine CT_of_J (cc := b_Terms_firstOfNew) (maxL := 2) (ret := (some .int)) jF0_k (plainFor_of_name (by decide)) rfl (Nat.le_of_ble_eq_true rfl) ?_
  intro K hKl hKD X E
  subst hKl; subst hKD
  unfold f_Terms_firstOfNew at h
  refine J_iload_n X d_Terms_firstOfNew_0 rfl 1 rfl ?_
  refine J_iconst X d_Terms_firstOfNew_1 ?_
  refine J_icmp_ne (tgt := 18) X d_Terms_firstOfNew_2 (by decide) h (fun c1 h => ?_) (fun c1 h => ?_)
  · refine J_iload_n X d_Terms_firstOfNew_18 rfl 1 rfl ?_
    obtain ⟨r2, q3, h⟩ := wk_b h
    refine J_afterP (jrunS X (c_Terms_partsOf (ad := ad) q3) jF0_k (fun _ _ _ _ => trivial) (jgS own_Terms_firstOfNew (by decide +kernel)) rfl rfl rfl pd_Terms_partsOf (by decide) [] rfl (by decide) rfl rfl (Nat.le_of_ble_eq_true rfl) d_Terms_firstOfNew_19 (by decide)) ?_
    refine J_iconst X d_Terms_firstOfNew_22 ?_
    refine J_icmp_ne (tgt := 41) X d_Terms_firstOfNew_23 (by decide) h (fun c4 h => ?_) (fun c4 h => ?_)
    · refine J_aload_n X d_Terms_firstOfNew_41 rfl 0 rfl ?_
      refine J_get X (j_in in_Terms) 0 rfl rfl 5 (by decide) (j_m own_Terms_firstOfNew (by decide +kernel)) rfl d_Terms_firstOfNew_42 ?_
      cases h
      exact J_ret E ⟨_, rfl, rfl⟩ d_Terms_firstOfNew_45 (Nat.le_refl _) (Nat.le_refl _) rfl
    · refine J_aload_n X d_Terms_firstOfNew_26 rfl 0 rfl ?_
      refine J_aload_n X d_Terms_firstOfNew_27 rfl 0 rfl ?_
      refine J_aload_n X d_Terms_firstOfNew_28 rfl 0 rfl ?_
      refine J_get X (j_in in_Terms) 0 rfl rfl 5 (by decide) (j_m own_Terms_firstOfNew (by decide +kernel)) rfl d_Terms_firstOfNew_29 ?_
      obtain ⟨r5, q6, h⟩ := wk_b h
      refine J_afterP (jrunV X (c_Terms_lastPartOf (ad := ad) q6) jF0_k (fun _ _ _ _ => trivial) (jgV own_Terms_firstOfNew (by decide +kernel)) rfl rfl rfl pd_Terms_lastPartOf (by decide) [0] rfl (by decide) 0 1 rfl rfl rfl rfl (Nat.le_of_ble_eq_true rfl) d_Terms_firstOfNew_32 (by decide)) ?_
      obtain ⟨r7, q8, h⟩ := wk_b h
      refine J_afterP (jrunV X (c_Terms_firstOf (ad := ad) q8) jF0_k (fun _ _ _ _ => trivial) (jgV own_Terms_firstOfNew (by decide +kernel)) rfl rfl rfl pd_Terms_firstOf (by decide) [0, 1] rfl (by decide) 0 1 rfl rfl rfl rfl (Nat.le_of_ble_eq_true rfl) d_Terms_firstOfNew_35 (by decide)) ?_
      refine J_goto (tgt := 45) X d_Terms_firstOfNew_38 (by decide) ?_
      cases h
      exact J_ret E ⟨_, rfl, rfl⟩ d_Terms_firstOfNew_45 (Nat.le_refl _) (Nat.le_refl _) rfl
  · refine J_aload_n X d_Terms_firstOfNew_5 rfl 0 rfl ?_
    refine J_aload_n X d_Terms_firstOfNew_6 rfl 0 rfl ?_
    refine J_aload_n X d_Terms_firstOfNew_7 rfl 0 rfl ?_
    refine J_get X (j_in in_Terms) 0 rfl rfl 5 (by decide) (j_m own_Terms_firstOfNew (by decide +kernel)) rfl d_Terms_firstOfNew_8 ?_
    obtain ⟨r9, q10, h⟩ := wk_b h
    refine J_afterP (jrunV X (c_Terms_functionOf (ad := ad) q10) jF0_k (fun _ _ _ _ => trivial) (jgV own_Terms_firstOfNew (by decide +kernel)) rfl rfl rfl pd_Terms_functionOf (by decide) [0, 1] rfl (by decide) 0 1 rfl rfl rfl rfl (Nat.le_of_ble_eq_true rfl) d_Terms_firstOfNew_11 (by decide)) ?_
    obtain ⟨r11, q12, h⟩ := wk_b h
    refine J_afterP (jrunV X (c_Terms_firstOf (ad := ad) q12) jF0_k (fun _ _ _ _ => trivial) (jgV own_Terms_firstOfNew (by decide +kernel)) rfl rfl rfl pd_Terms_firstOf (by decide) [0, 1] rfl (by decide) 0 1 rfl rfl rfl rfl (Nat.le_of_ble_eq_true rfl) d_Terms_firstOfNew_14 (by decide)) ?_
    cases h
    exact J_ret E ⟨_, rfl, rfl⟩ d_Terms_firstOfNew_17 (Nat.le_refl _) (Nat.le_refl _) rfl

theorem d_Terms_lacksOfNew_0 : decode b_Terms_lacksOfNew 0 = .ok (.aload_n 0, 1) := by decide +kernel
theorem d_Terms_lacksOfNew_1 : decode b_Terms_lacksOfNew 1 = .ok (.aload_n 0, 1) := by decide +kernel
theorem d_Terms_lacksOfNew_2 : decode b_Terms_lacksOfNew 2 = .ok (.aload_n 0, 1) := by decide +kernel
theorem d_Terms_lacksOfNew_3 : decode b_Terms_lacksOfNew 3 = .ok (.getfield 34, 3) := by decide +kernel
theorem d_Terms_lacksOfNew_6 : decode b_Terms_lacksOfNew 6 = .ok (.invokevirtual 59, 3) := by decide +kernel
theorem d_Terms_lacksOfNew_9 : decode b_Terms_lacksOfNew 9 = .ok (.invokevirtual 51, 3) := by decide +kernel
theorem d_Terms_lacksOfNew_12 : decode b_Terms_lacksOfNew 12 = .ok (.istore 4, 2) := by decide +kernel
theorem d_Terms_lacksOfNew_14 : decode b_Terms_lacksOfNew 14 = .ok (.iload_n 1, 1) := by decide +kernel
theorem d_Terms_lacksOfNew_15 : decode b_Terms_lacksOfNew 15 = .ok (.tableswitch 66 0 4 #[33, 36, 45, 63, 63], 33) := by decide +kernel
theorem d_Terms_lacksOfNew_48 : decode b_Terms_lacksOfNew 48 = .ok (.lload_n 2, 1) := by decide +kernel
theorem d_Terms_lacksOfNew_49 : decode b_Terms_lacksOfNew 49 = .ok (.l2i, 1) := by decide +kernel
theorem d_Terms_lacksOfNew_50 : decode b_Terms_lacksOfNew 50 = .ok (.ireturn, 1) := by decide +kernel
theorem d_Terms_lacksOfNew_51 : decode b_Terms_lacksOfNew 51 = .ok (.iconst 0, 1) := by decide +kernel
theorem d_Terms_lacksOfNew_52 : decode b_Terms_lacksOfNew 52 = .ok (.iload 4, 2) := by decide +kernel
theorem d_Terms_lacksOfNew_54 : decode b_Terms_lacksOfNew 54 = .ok (.iconst 1, 1) := by decide +kernel
theorem d_Terms_lacksOfNew_55 : decode b_Terms_lacksOfNew 55 = .ok (.isub, 1) := by decide +kernel
theorem d_Terms_lacksOfNew_56 : decode b_Terms_lacksOfNew 56 = .ok (.invokestatic 101, 3) := by decide +kernel
theorem d_Terms_lacksOfNew_59 : decode b_Terms_lacksOfNew 59 = .ok (.ireturn, 1) := by decide +kernel
theorem d_Terms_lacksOfNew_60 : decode b_Terms_lacksOfNew 60 = .ok (.aload_n 0, 1) := by decide +kernel
theorem d_Terms_lacksOfNew_61 : decode b_Terms_lacksOfNew 61 = .ok (.aload_n 0, 1) := by decide +kernel
theorem d_Terms_lacksOfNew_62 : decode b_Terms_lacksOfNew 62 = .ok (.aload_n 0, 1) := by decide +kernel
theorem d_Terms_lacksOfNew_63 : decode b_Terms_lacksOfNew 63 = .ok (.getfield 34, 3) := by decide +kernel
theorem d_Terms_lacksOfNew_66 : decode b_Terms_lacksOfNew 66 = .ok (.invokevirtual 98, 3) := by decide +kernel
theorem d_Terms_lacksOfNew_69 : decode b_Terms_lacksOfNew 69 = .ok (.invokevirtual 51, 3) := by decide +kernel
theorem d_Terms_lacksOfNew_72 : decode b_Terms_lacksOfNew 72 = .ok (.iload 4, 2) := by decide +kernel
theorem d_Terms_lacksOfNew_74 : decode b_Terms_lacksOfNew 74 = .ok (.invokestatic 101, 3) := by decide +kernel
theorem d_Terms_lacksOfNew_77 : decode b_Terms_lacksOfNew 77 = .ok (.ireturn, 1) := by decide +kernel
theorem d_Terms_lacksOfNew_78 : decode b_Terms_lacksOfNew 78 = .ok (.iload 4, 2) := by decide +kernel
theorem d_Terms_lacksOfNew_80 : decode b_Terms_lacksOfNew 80 = .ok (.ireturn, 1) := by decide +kernel
theorem d_Terms_lacksOfNew_81 : decode b_Terms_lacksOfNew 81 = .ok (.iconst 0, 1) := by decide +kernel
theorem d_Terms_lacksOfNew_82 : decode b_Terms_lacksOfNew 82 = .ok (.ireturn, 1) := by decide +kernel
def f_Terms_lacksOfNew (T_nodes : Int) (T_firsts : Int → Int) (T_lacks : Int → Int) (p1 : Int) (p2 : Int) : Option (Int) :=
  Option.bind (f_Terms_lastPartOf T_nodes) (fun r1 =>
   Option.bind (f_Terms_lacksOf T_nodes T_lacks r1) (fun r3 =>
    if rI p1 = true then (
     if p1 = 0 then (
      some p2) else (
      if p1 = 1 then (
       if jr2 0 (r3 - 1) = true then (
        some (max 0 (r3 - 1))) else none) else (
       if p1 = 2 then (
        Option.bind (f_Terms_functionOf T_nodes T_firsts T_nodes) (fun r10 =>
         Option.bind (f_Terms_lacksOf T_nodes T_lacks r10) (fun r12 =>
          if jr2 r12 r3 = true then (
           some (max r12 r3)) else none))) else (
        if p1 = 3 then (
         some r3) else (
         if p1 = 4 then (
          some r3) else (
          some 0)))))) else none))
set_option maxHeartbeats 4000000 in
set_option maxRecDepth 100000 in
theorem c_Terms_lacksOfNew {l : Launch} {D : va_G} {cI cL cB : ClassId} {ad : Nat → Nat} {T_nodes : Int} {T_count : Int} {T_firsts : Int → Int} {T_lacks : Int → Int} {p1 : Int} {p2 : Int} {out : Int} (h : f_Terms_lacksOfNew T_nodes T_firsts T_lacks p1 p2 = some out) : CT jF0 true l D [(cI, .int), (cL, .long), (cB, .byte)] y_Terms_lacksOfNew w_Terms_lacksOfNew ({ frames := 3, cells := 0, slots := 0, locals := 63 } : Room) [.ref (ad 1), .int (zI p1), .long (zL p2)] [(ad 1, .inr (1, [.ref (ad 2), .ref (ad 3), .ref (ad 4), .ref (ad 5), .ref (ad 6), .int (zI T_nodes), .int (zI T_count)])), (ad 4, .inl (cI, 200, .inl (zA T_firsts))), (ad 5, .inl (cI, 200, .inl (zA T_lacks)))] (some (.int (zI out))) [(ad 1, .inr (1, [.ref (ad 2), .ref (ad 3), .ref (ad 4), .ref (ad 5), .ref (ad 6), .int (zI T_nodes), .int (zI T_count)])), (ad 4, .inl (cI, 200, .inl (zA T_firsts))), (ad 5, .inl (cI, 200, .inl (zA T_lacks)))] 0 0 := by
  refine CT_of_J (cc := b_Terms_lacksOfNew) (maxL := 5) (ret := (some .int)) jF0_k (plainFor_of_name (by decide)) rfl (Nat.le_of_ble_eq_true rfl) ?_
  intro K hKl hKD X E
  subst hKl; subst hKD
  unfold f_Terms_lacksOfNew at h
  refine J_aload_n X d_Terms_lacksOfNew_0 rfl 0 rfl ?_
  refine J_aload_n X d_Terms_lacksOfNew_1 rfl 0 rfl ?_
  refine J_aload_n X d_Terms_lacksOfNew_2 rfl 0 rfl ?_
  refine J_get X (j_in in_Terms) 0 rfl rfl 5 (by decide) (j_m own_Terms_lacksOfNew (by decide +kernel)) rfl d_Terms_lacksOfNew_3 ?_
  obtain ⟨r1, q2, h⟩ := wk_b h
  refine J_afterP (jrunV X (c_Terms_lastPartOf (ad := ad) q2) jF0_k (fun _ _ _ _ => trivial) (jgV own_Terms_lacksOfNew (by decide +kernel)) rfl rfl rfl pd_Terms_lastPartOf (by decide) [0] rfl (by decide) 0 1 rfl rfl rfl rfl (Nat.le_of_ble_eq_true rfl) d_Terms_lacksOfNew_6 (by decide)) ?_
  obtain ⟨r3, q4, h⟩ := wk_b h
  refine J_afterP (jrunV X (c_Terms_lacksOf (ad := ad) q4) jF0_k (fun _ _ _ _ => trivial) (jgV own_Terms_lacksOfNew (by decide +kernel)) rfl rfl rfl pd_Terms_lacksOf (by decide) [0, 2] rfl (by decide) 0 1 rfl rfl rfl rfl (Nat.le_of_ble_eq_true rfl) d_Terms_lacksOfNew_9 (by decide)) ?_
  refine J_istore (lv' := [(4, .int (zI r3)), (0, .ref (ad 1)), (1, .int (zI p1)), (2, .long (zL p2))]) X d_Terms_lacksOfNew_12 (by decide) rfl ?_
  refine J_iload_n X d_Terms_lacksOfNew_14 rfl 2 rfl ?_
  obtain ⟨g5, h⟩ := wk_g h
  rcases wk_c h with ⟨c6, h⟩ | ⟨c6, h⟩
  · refine J_tsIn (tgt := 48) X 0 c6 g5 d_Terms_lacksOfNew_15 (by decide) (by decide) rfl (by decide) ?_
    refine J_lload_n X d_Terms_lacksOfNew_48 rfl 3 rfl ?_
    refine J_l2i X d_Terms_lacksOfNew_49 ?_
    cases h
    exact J_ret E ⟨_, rfl, rfl⟩ d_Terms_lacksOfNew_50 (Nat.le_refl _) (Nat.le_refl _) rfl
  · rcases wk_c h with ⟨c7, h⟩ | ⟨c7, h⟩
    · refine J_tsIn (tgt := 51) X 1 c7 g5 d_Terms_lacksOfNew_15 (by decide) (by decide) rfl (by decide) ?_
      refine J_iconst X d_Terms_lacksOfNew_51 ?_
      refine J_iload X d_Terms_lacksOfNew_52 0 rfl ?_
      refine J_iconst X d_Terms_lacksOfNew_54 ?_
      refine J_isub X d_Terms_lacksOfNew_55 ?_
      obtain ⟨g8, h⟩ := wk_g h
      refine J_mmax X g8 (j_m own_Terms_lacksOfNew (by decide +kernel)) (j_m own_Terms_lacksOfNew (by decide +kernel)) (j_m own_Terms_lacksOfNew (by decide +kernel)) (j_m own_Terms_lacksOfNew (by decide +kernel)) (by decide) (Nat.le_of_ble_eq_true rfl) (by decide) (by decide) d_Terms_lacksOfNew_56 ?_
      cases h
      exact J_ret E ⟨_, rfl, rfl⟩ d_Terms_lacksOfNew_59 (Nat.le_refl _) (Nat.le_refl _) rfl
    · rcases wk_c h with ⟨c9, h⟩ | ⟨c9, h⟩
      · refine J_tsIn (tgt := 60) X 2 c9 g5 d_Terms_lacksOfNew_15 (by decide) (by decide) rfl (by decide) ?_
        refine J_aload_n X d_Terms_lacksOfNew_60 rfl 1 rfl ?_
        refine J_aload_n X d_Terms_lacksOfNew_61 rfl 1 rfl ?_
        refine J_aload_n X d_Terms_lacksOfNew_62 rfl 1 rfl ?_
        refine J_get X (j_in in_Terms) 0 rfl rfl 5 (by decide) (j_m own_Terms_lacksOfNew (by decide +kernel)) rfl d_Terms_lacksOfNew_63 ?_
        obtain ⟨r10, q11, h⟩ := wk_b h
        refine J_afterP (jrunV X (c_Terms_functionOf (ad := ad) q11) jF0_k (fun _ _ _ _ => trivial) (jgV own_Terms_lacksOfNew (by decide +kernel)) rfl rfl rfl pd_Terms_functionOf (by decide) [0, 1] rfl (by decide) 0 1 rfl rfl rfl rfl (Nat.le_of_ble_eq_true rfl) d_Terms_lacksOfNew_66 (by decide)) ?_
        obtain ⟨r12, q13, h⟩ := wk_b h
        refine J_afterP (jrunV X (c_Terms_lacksOf (ad := ad) q13) jF0_k (fun _ _ _ _ => trivial) (jgV own_Terms_lacksOfNew (by decide +kernel)) rfl rfl rfl pd_Terms_lacksOf (by decide) [0, 2] rfl (by decide) 0 1 rfl rfl rfl rfl (Nat.le_of_ble_eq_true rfl) d_Terms_lacksOfNew_69 (by decide)) ?_
        refine J_iload X d_Terms_lacksOfNew_72 0 rfl ?_
        obtain ⟨g14, h⟩ := wk_g h
        refine J_mmax X g14 (j_m own_Terms_lacksOfNew (by decide +kernel)) (j_m own_Terms_lacksOfNew (by decide +kernel)) (j_m own_Terms_lacksOfNew (by decide +kernel)) (j_m own_Terms_lacksOfNew (by decide +kernel)) (by decide) (Nat.le_of_ble_eq_true rfl) (by decide) (by decide) d_Terms_lacksOfNew_74 ?_
        cases h
        exact J_ret E ⟨_, rfl, rfl⟩ d_Terms_lacksOfNew_77 (Nat.le_refl _) (Nat.le_refl _) rfl
      · rcases wk_c h with ⟨c15, h⟩ | ⟨c15, h⟩
        · refine J_tsIn (tgt := 78) X 3 c15 g5 d_Terms_lacksOfNew_15 (by decide) (by decide) rfl (by decide) ?_
          refine J_iload X d_Terms_lacksOfNew_78 0 rfl ?_
          cases h
          exact J_ret E ⟨_, rfl, rfl⟩ d_Terms_lacksOfNew_80 (Nat.le_refl _) (Nat.le_refl _) rfl
        · rcases wk_c h with ⟨c16, h⟩ | ⟨c16, h⟩
          · refine J_tsIn (tgt := 78) X 4 c16 g5 d_Terms_lacksOfNew_15 (by decide) (by decide) rfl (by decide) ?_
            refine J_iload X d_Terms_lacksOfNew_78 0 rfl ?_
            cases h
            exact J_ret E ⟨_, rfl, rfl⟩ d_Terms_lacksOfNew_80 (Nat.le_refl _) (Nat.le_refl _) rfl
          · refine J_tsOut (tgt := 81) X g5 d_Terms_lacksOfNew_15 (by omega) (by decide) ?_
            refine J_iconst X d_Terms_lacksOfNew_81 ?_
            cases h
            exact J_ret E ⟨_, rfl, rfl⟩ d_Terms_lacksOfNew_82 (Nat.le_refl _) (Nat.le_refl _) rfl

theorem d_Terms_push_0 : decode b_Terms_push 0 = .ok (.aload_n 0, 1) := by decide +kernel
theorem d_Terms_push_1 : decode b_Terms_push 1 = .ok (.invokevirtual 68, 3) := by decide +kernel
theorem d_Terms_push_4 : decode b_Terms_push 4 = .ok (.ifCond .ne 14, 3) := by decide +kernel
theorem d_Terms_push_7 : decode b_Terms_push 7 = .ok (.aload_n 0, 1) := by decide +kernel
theorem d_Terms_push_8 : decode b_Terms_push 8 = .ok (.getfield 38, 3) := by decide +kernel
theorem d_Terms_push_11 : decode b_Terms_push 11 = .ok (.iload_n 1, 1) := by decide +kernel
theorem d_Terms_push_12 : decode b_Terms_push 12 = .ok (.invokestatic 72, 3) := by decide +kernel
theorem d_Terms_push_15 : decode b_Terms_push 15 = .ok (.if_icmp .ge 4, 3) := by decide +kernel
theorem d_Terms_push_18 : decode b_Terms_push 18 = .ok (.return_, 1) := by decide +kernel
theorem d_Terms_push_19 : decode b_Terms_push 19 = .ok (.aload_n 0, 1) := by decide +kernel
theorem d_Terms_push_20 : decode b_Terms_push 20 = .ok (.getfield 9, 3) := by decide +kernel
theorem d_Terms_push_23 : decode b_Terms_push 23 = .ok (.aload_n 0, 1) := by decide +kernel
theorem d_Terms_push_24 : decode b_Terms_push 24 = .ok (.getfield 34, 3) := by decide +kernel
theorem d_Terms_push_27 : decode b_Terms_push 27 = .ok (.iload_n 1, 1) := by decide +kernel
theorem d_Terms_push_28 : decode b_Terms_push 28 = .ok (.iastore, 1) := by decide +kernel
theorem d_Terms_push_29 : decode b_Terms_push 29 = .ok (.aload_n 0, 1) := by decide +kernel
theorem d_Terms_push_30 : decode b_Terms_push 30 = .ok (.getfield 15, 3) := by decide +kernel
theorem d_Terms_push_33 : decode b_Terms_push 33 = .ok (.aload_n 0, 1) := by decide +kernel
theorem d_Terms_push_34 : decode b_Terms_push 34 = .ok (.getfield 34, 3) := by decide +kernel
theorem d_Terms_push_37 : decode b_Terms_push 37 = .ok (.lload_n 2, 1) := by decide +kernel
theorem d_Terms_push_38 : decode b_Terms_push 38 = .ok (.lastore, 1) := by decide +kernel
theorem d_Terms_push_39 : decode b_Terms_push 39 = .ok (.aload_n 0, 1) := by decide +kernel
theorem d_Terms_push_40 : decode b_Terms_push 40 = .ok (.getfield 19, 3) := by decide +kernel
theorem d_Terms_push_43 : decode b_Terms_push 43 = .ok (.aload_n 0, 1) := by decide +kernel
theorem d_Terms_push_44 : decode b_Terms_push 44 = .ok (.getfield 34, 3) := by decide +kernel
theorem d_Terms_push_47 : decode b_Terms_push 47 = .ok (.aload_n 0, 1) := by decide +kernel
theorem d_Terms_push_48 : decode b_Terms_push 48 = .ok (.iload_n 1, 1) := by decide +kernel
theorem d_Terms_push_49 : decode b_Terms_push 49 = .ok (.invokevirtual 75, 3) := by decide +kernel
theorem d_Terms_push_52 : decode b_Terms_push 52 = .ok (.iastore, 1) := by decide +kernel
theorem d_Terms_push_53 : decode b_Terms_push 53 = .ok (.aload_n 0, 1) := by decide +kernel
theorem d_Terms_push_54 : decode b_Terms_push 54 = .ok (.getfield 22, 3) := by decide +kernel
theorem d_Terms_push_57 : decode b_Terms_push 57 = .ok (.aload_n 0, 1) := by decide +kernel
theorem d_Terms_push_58 : decode b_Terms_push 58 = .ok (.getfield 34, 3) := by decide +kernel
theorem d_Terms_push_61 : decode b_Terms_push 61 = .ok (.aload_n 0, 1) := by decide +kernel
theorem d_Terms_push_62 : decode b_Terms_push 62 = .ok (.iload_n 1, 1) := by decide +kernel
theorem d_Terms_push_63 : decode b_Terms_push 63 = .ok (.lload_n 2, 1) := by decide +kernel
theorem d_Terms_push_64 : decode b_Terms_push 64 = .ok (.invokevirtual 78, 3) := by decide +kernel
theorem d_Terms_push_67 : decode b_Terms_push 67 = .ok (.iastore, 1) := by decide +kernel
theorem d_Terms_push_68 : decode b_Terms_push 68 = .ok (.aload_n 0, 1) := by decide +kernel
theorem d_Terms_push_69 : decode b_Terms_push 69 = .ok (.dup, 1) := by decide +kernel
theorem d_Terms_push_70 : decode b_Terms_push 70 = .ok (.getfield 38, 3) := by decide +kernel
theorem d_Terms_push_73 : decode b_Terms_push 73 = .ok (.iconst 1, 1) := by decide +kernel
theorem d_Terms_push_74 : decode b_Terms_push 74 = .ok (.iload_n 1, 1) := by decide +kernel
theorem d_Terms_push_75 : decode b_Terms_push 75 = .ok (.invokestatic 72, 3) := by decide +kernel
theorem d_Terms_push_78 : decode b_Terms_push 78 = .ok (.isub, 1) := by decide +kernel
theorem d_Terms_push_79 : decode b_Terms_push 79 = .ok (.iadd, 1) := by decide +kernel
theorem d_Terms_push_80 : decode b_Terms_push 80 = .ok (.putfield 38, 3) := by decide +kernel
theorem d_Terms_push_83 : decode b_Terms_push 83 = .ok (.aload_n 0, 1) := by decide +kernel
theorem d_Terms_push_84 : decode b_Terms_push 84 = .ok (.dup, 1) := by decide +kernel
theorem d_Terms_push_85 : decode b_Terms_push 85 = .ok (.getfield 34, 3) := by decide +kernel
theorem d_Terms_push_88 : decode b_Terms_push 88 = .ok (.iconst 1, 1) := by decide +kernel
theorem d_Terms_push_89 : decode b_Terms_push 89 = .ok (.iadd, 1) := by decide +kernel
theorem d_Terms_push_90 : decode b_Terms_push 90 = .ok (.putfield 34, 3) := by decide +kernel
theorem d_Terms_push_93 : decode b_Terms_push 93 = .ok (.return_, 1) := by decide +kernel
def f_Terms_push (T_nodes : Int) (T_count : Int) (T_kinds : Int → Int) (T_args : Int → Int) (T_firsts : Int → Int) (T_lacks : Int → Int) (p1 : Int) (p2 : Int) : Option (Int × Int × (Int → Int) × (Int → Int) × (Int → Int) × (Int → Int)) :=
  Option.bind (f_Terms_isFull T_nodes) (fun r1 =>
   if rI r1 = true then (if r1 = 0 then (
    Option.bind (f_Terms_partsOf p1) (fun r4 =>
     if jr2 T_count r4 = true then (if r4 ≤ T_count then (
      if jix T_nodes 200 = true then (
       if jix T_nodes 200 = true then (
        Option.bind (f_Terms_firstOfNew T_nodes T_firsts p1) (fun r9 =>
         if jix T_nodes 200 = true then (
          Option.bind (f_Terms_lacksOfNew T_nodes (upZ T_firsts T_nodes r9) T_lacks p1 p2) (fun r12 =>
           if jix T_nodes 200 = true then (
            Option.bind (f_Terms_partsOf p1) (fun r15 =>
             some ((T_nodes + 1), (T_count + (1 - r15)), (upZ T_kinds T_nodes p1), (upZ T_args T_nodes p2), (upZ T_firsts T_nodes r9), (upZ T_lacks T_nodes r12)))) else none)) else none)) else none) else none) else (
      some (T_nodes, T_count, T_kinds, T_args, T_firsts, T_lacks))) else none)) else (
    some (T_nodes, T_count, T_kinds, T_args, T_firsts, T_lacks))) else none)
set_option maxHeartbeats 4000000 in
set_option maxRecDepth 100000 in
theorem c_Terms_push {l : Launch} {D : va_G} {cI cL cB : ClassId} {ad : Nat → Nat} {T_nodes : Int} {T_count : Int} {T_kinds : Int → Int} {T_args : Int → Int} {T_firsts : Int → Int} {T_lacks : Int → Int} {p1 : Int} {p2 : Int} {out : Int × Int × (Int → Int) × (Int → Int) × (Int → Int) × (Int → Int)} (h : f_Terms_push T_nodes T_count T_kinds T_args T_firsts T_lacks p1 p2 = some out) : CT jF0 false l D [(cI, .int), (cL, .long), (cB, .byte)] y_Terms_push w_Terms_push ({ frames := 4, cells := 0, slots := 0, locals := 87 } : Room) [.ref (ad 1), .int (zI p1), .long (zL p2)] [(ad 1, .inr (1, [.ref (ad 2), .ref (ad 3), .ref (ad 4), .ref (ad 5), .ref (ad 6), .int (zI T_nodes), .int (zI T_count)])), (ad 2, .inl (cI, 200, .inl (zA T_kinds))), (ad 3, .inl (cL, 200, .inr (.inl (zB T_args)))), (ad 4, .inl (cI, 200, .inl (zA T_firsts))), (ad 5, .inl (cI, 200, .inl (zA T_lacks)))] none [(ad 1, .inr (1, [.ref (ad 2), .ref (ad 3), .ref (ad 4), .ref (ad 5), .ref (ad 6), .int (zI (out.1)), .int (zI (out.2.1))])), (ad 2, .inl (cI, 200, .inl (zA (out.2.2.1)))), (ad 3, .inl (cL, 200, .inr (.inl (zB (out.2.2.2.1))))), (ad 4, .inl (cI, 200, .inl (zA (out.2.2.2.2.1)))), (ad 5, .inl (cI, 200, .inl (zA (out.2.2.2.2.2))))] 0 0 := by
  refine CT_of_J (cc := b_Terms_push) (maxL := 4) (ret := none) jF0_k (plainFor_of_name (by decide)) rfl (Nat.le_of_ble_eq_true rfl) ?_
  intro K hKl hKD X E
  subst hKl; subst hKD
  unfold f_Terms_push at h
  refine J_aload_n X d_Terms_push_0 rfl 0 rfl ?_
  obtain ⟨r1, q2, h⟩ := wk_b h
  refine J_afterP (jrunV X (c_Terms_isFull (ad := ad) q2) jF0_k (fun _ _ _ _ => trivial) (jgV own_Terms_push (by decide +kernel)) rfl rfl rfl pd_Terms_isFull (by decide) [0] rfl (by decide) 0 1 rfl rfl rfl rfl (Nat.le_of_ble_eq_true rfl) d_Terms_push_1 (by decide)) ?_
  refine J_if_ne (tgt := 18) X d_Terms_push_4 (by decide) h (fun c3 h => ?_) (fun c3 h => ?_)
  · cases h
    exact J_ret E rfl d_Terms_push_18 (Nat.le_refl _) (Nat.le_refl _) rfl
  · refine J_aload_n X d_Terms_push_7 rfl 0 rfl ?_
    refine J_get X (j_in in_Terms) 0 rfl rfl 6 (by decide) (j_m own_Terms_push (by decide +kernel)) rfl d_Terms_push_8 ?_
    refine J_iload_n X d_Terms_push_11 rfl 1 rfl ?_
    obtain ⟨r4, q5, h⟩ := wk_b h
    refine J_afterP (jrunS X (c_Terms_partsOf (ad := ad) q5) jF0_k (fun _ _ _ _ => trivial) (jgS own_Terms_push (by decide +kernel)) rfl rfl rfl pd_Terms_partsOf (by decide) [] rfl (by decide) rfl rfl (Nat.le_of_ble_eq_true rfl) d_Terms_push_12 (by decide)) ?_
    refine J_icmp_ge (tgt := 19) X d_Terms_push_15 (by decide) h (fun c6 h => ?_) (fun c6 h => ?_)
    · refine J_aload_n X d_Terms_push_19 rfl 0 rfl ?_
      refine J_get X (j_in in_Terms) 0 rfl rfl 0 (by decide) (j_m own_Terms_push (by decide +kernel)) rfl d_Terms_push_20 ?_
      refine J_aload_n X d_Terms_push_23 rfl 0 rfl ?_
      refine J_get X (j_in in_Terms) 0 rfl rfl 5 (by decide) (j_m own_Terms_push (by decide +kernel)) rfl d_Terms_push_24 ?_
      refine J_iload_n X d_Terms_push_27 rfl 1 rfl ?_
      obtain ⟨g7, h⟩ := wk_g h
      refine J_iast (ws' := [(ad 1, .inr (1, [.ref (ad 2), .ref (ad 3), .ref (ad 4), .ref (ad 5), .ref (ad 6), .int (zI T_nodes), .int (zI T_count)])), (ad 2, .inl (cI, 200, .inl (zA (upZ T_kinds T_nodes p1)))), (ad 3, .inl (cL, 200, .inr (.inl (zB T_args)))), (ad 4, .inl (cI, 200, .inl (zA T_firsts))), (ad 5, .inl (cI, 200, .inl (zA T_lacks)))]) X 1 0 rfl rfl g7 d_Terms_push_28 rfl ?_
      refine J_aload_n X d_Terms_push_29 rfl 0 rfl ?_
      refine J_get X (j_in in_Terms) 0 rfl rfl 1 (by decide) (j_m own_Terms_push (by decide +kernel)) rfl d_Terms_push_30 ?_
      refine J_aload_n X d_Terms_push_33 rfl 0 rfl ?_
      refine J_get X (j_in in_Terms) 0 rfl rfl 5 (by decide) (j_m own_Terms_push (by decide +kernel)) rfl d_Terms_push_34 ?_
      refine J_lload_n X d_Terms_push_37 rfl 2 rfl ?_
      obtain ⟨g8, h⟩ := wk_g h
      refine J_last (ws' := [(ad 1, .inr (1, [.ref (ad 2), .ref (ad 3), .ref (ad 4), .ref (ad 5), .ref (ad 6), .int (zI T_nodes), .int (zI T_count)])), (ad 2, .inl (cI, 200, .inl (zA (upZ T_kinds T_nodes p1)))), (ad 3, .inl (cL, 200, .inr (.inl (zB (upZ T_args T_nodes p2))))), (ad 4, .inl (cI, 200, .inl (zA T_firsts))), (ad 5, .inl (cI, 200, .inl (zA T_lacks)))]) X 2 1 rfl rfl g8 d_Terms_push_38 rfl ?_
      refine J_aload_n X d_Terms_push_39 rfl 0 rfl ?_
      refine J_get X (j_in in_Terms) 0 rfl rfl 2 (by decide) (j_m own_Terms_push (by decide +kernel)) rfl d_Terms_push_40 ?_
      refine J_aload_n X d_Terms_push_43 rfl 0 rfl ?_
      refine J_get X (j_in in_Terms) 0 rfl rfl 5 (by decide) (j_m own_Terms_push (by decide +kernel)) rfl d_Terms_push_44 ?_
      refine J_aload_n X d_Terms_push_47 rfl 0 rfl ?_
      refine J_iload_n X d_Terms_push_48 rfl 1 rfl ?_
      obtain ⟨r9, q10, h⟩ := wk_b h
      refine J_afterP (jrunV X (c_Terms_firstOfNew (ad := ad) q10) jF0_k (fun _ _ _ _ => trivial) (jgV own_Terms_push (by decide +kernel)) rfl rfl rfl pd_Terms_firstOfNew (by decide) [0, 3] rfl (by decide) 0 1 rfl rfl rfl rfl (Nat.le_of_ble_eq_true rfl) d_Terms_push_49 (by decide)) ?_
      obtain ⟨g11, h⟩ := wk_g h
      refine J_iast (ws' := [(ad 1, .inr (1, [.ref (ad 2), .ref (ad 3), .ref (ad 4), .ref (ad 5), .ref (ad 6), .int (zI T_nodes), .int (zI T_count)])), (ad 2, .inl (cI, 200, .inl (zA (upZ T_kinds T_nodes p1)))), (ad 3, .inl (cL, 200, .inr (.inl (zB (upZ T_args T_nodes p2))))), (ad 4, .inl (cI, 200, .inl (zA (upZ T_firsts T_nodes r9)))), (ad 5, .inl (cI, 200, .inl (zA T_lacks)))]) X 3 0 rfl rfl g11 d_Terms_push_52 rfl ?_
      refine J_aload_n X d_Terms_push_53 rfl 0 rfl ?_
      refine J_get X (j_in in_Terms) 0 rfl rfl 3 (by decide) (j_m own_Terms_push (by decide +kernel)) rfl d_Terms_push_54 ?_
      refine J_aload_n X d_Terms_push_57 rfl 0 rfl ?_
      refine J_get X (j_in in_Terms) 0 rfl rfl 5 (by decide) (j_m own_Terms_push (by decide +kernel)) rfl d_Terms_push_58 ?_
      refine J_aload_n X d_Terms_push_61 rfl 0 rfl ?_
      refine J_iload_n X d_Terms_push_62 rfl 1 rfl ?_
      refine J_lload_n X d_Terms_push_63 rfl 2 rfl ?_
      obtain ⟨r12, q13, h⟩ := wk_b h
      refine J_afterP (jrunV X (c_Terms_lacksOfNew (ad := ad) q13) jF0_k (fun _ _ _ _ => trivial) (jgV own_Terms_push (by decide +kernel)) rfl rfl rfl pd_Terms_lacksOfNew (by decide) [0, 3, 4] rfl (by decide) 0 1 rfl rfl rfl rfl (Nat.le_of_ble_eq_true rfl) d_Terms_push_64 (by decide)) ?_
      obtain ⟨g14, h⟩ := wk_g h
      refine J_iast (ws' := [(ad 1, .inr (1, [.ref (ad 2), .ref (ad 3), .ref (ad 4), .ref (ad 5), .ref (ad 6), .int (zI T_nodes), .int (zI T_count)])), (ad 2, .inl (cI, 200, .inl (zA (upZ T_kinds T_nodes p1)))), (ad 3, .inl (cL, 200, .inr (.inl (zB (upZ T_args T_nodes p2))))), (ad 4, .inl (cI, 200, .inl (zA (upZ T_firsts T_nodes r9)))), (ad 5, .inl (cI, 200, .inl (zA (upZ T_lacks T_nodes r12))))]) X 4 0 rfl rfl g14 d_Terms_push_67 rfl ?_
      refine J_aload_n X d_Terms_push_68 rfl 0 rfl ?_
      refine J_dup X d_Terms_push_69 rfl ?_
      refine J_get X (j_in in_Terms) 0 rfl rfl 6 (by decide) (j_m own_Terms_push (by decide +kernel)) rfl d_Terms_push_70 ?_
      refine J_iconst X d_Terms_push_73 ?_
      refine J_iload_n X d_Terms_push_74 rfl 1 rfl ?_
      obtain ⟨r15, q16, h⟩ := wk_b h
      refine J_afterP (jrunS X (c_Terms_partsOf (ad := ad) q16) jF0_k (fun _ _ _ _ => trivial) (jgS own_Terms_push (by decide +kernel)) rfl rfl rfl pd_Terms_partsOf (by decide) [] rfl (by decide) rfl rfl (Nat.le_of_ble_eq_true rfl) d_Terms_push_75 (by decide)) ?_
      refine J_isub X d_Terms_push_78 ?_
      refine J_iadd X d_Terms_push_79 ?_
      refine J_put (ws' := [(ad 1, .inr (1, [.ref (ad 2), .ref (ad 3), .ref (ad 4), .ref (ad 5), .ref (ad 6), .int (zI T_nodes), .int (zI (T_count + (1 - r15)))])), (ad 2, .inl (cI, 200, .inl (zA (upZ T_kinds T_nodes p1)))), (ad 3, .inl (cL, 200, .inr (.inl (zB (upZ T_args T_nodes p2))))), (ad 4, .inl (cI, 200, .inl (zA (upZ T_firsts T_nodes r9)))), (ad 5, .inl (cI, 200, .inl (zA (upZ T_lacks T_nodes r12))))]) X (j_in in_Terms) ty_Terms tok_Terms nm_Terms 0 rfl rfl 6 (by decide) (j_m own_Terms_push (by decide +kernel)) rfl rfl rfl (Nat.le_of_ble_eq_true rfl) d_Terms_push_80 rfl ?_
      refine J_aload_n X d_Terms_push_83 rfl 0 rfl ?_
      refine J_dup X d_Terms_push_84 rfl ?_
      refine J_get X (j_in in_Terms) 0 rfl rfl 5 (by decide) (j_m own_Terms_push (by decide +kernel)) rfl d_Terms_push_85 ?_
      refine J_iconst X d_Terms_push_88 ?_
      refine J_iadd X d_Terms_push_89 ?_
      refine J_put (ws' := [(ad 1, .inr (1, [.ref (ad 2), .ref (ad 3), .ref (ad 4), .ref (ad 5), .ref (ad 6), .int (zI (T_nodes + 1)), .int (zI (T_count + (1 - r15)))])), (ad 2, .inl (cI, 200, .inl (zA (upZ T_kinds T_nodes p1)))), (ad 3, .inl (cL, 200, .inr (.inl (zB (upZ T_args T_nodes p2))))), (ad 4, .inl (cI, 200, .inl (zA (upZ T_firsts T_nodes r9)))), (ad 5, .inl (cI, 200, .inl (zA (upZ T_lacks T_nodes r12))))]) X (j_in in_Terms) ty_Terms tok_Terms nm_Terms 0 rfl rfl 5 (by decide) (j_m own_Terms_push (by decide +kernel)) rfl rfl rfl (Nat.le_of_ble_eq_true rfl) d_Terms_push_90 rfl ?_
      cases h
      exact J_ret E rfl d_Terms_push_93 (Nat.le_refl _) (Nat.le_refl _) rfl
    · cases h
      exact J_ret E rfl d_Terms_push_18 (Nat.le_refl _) (Nat.le_refl _) rfl

theorem d_Terms_pop_0 : decode b_Terms_pop 0 = .ok (.aload_n 0, 1) := by decide +kernel
theorem d_Terms_pop_1 : decode b_Terms_pop 1 = .ok (.getfield 38, 3) := by decide +kernel
theorem d_Terms_pop_4 : decode b_Terms_pop 4 = .ok (.ifCond .ne 5, 3) := by decide +kernel
theorem d_Terms_pop_7 : decode b_Terms_pop 7 = .ok (.iconst 0, 1) := by decide +kernel
theorem d_Terms_pop_8 : decode b_Terms_pop 8 = .ok (.ireturn, 1) := by decide +kernel
theorem d_Terms_pop_9 : decode b_Terms_pop 9 = .ok (.aload_n 0, 1) := by decide +kernel
theorem d_Terms_pop_10 : decode b_Terms_pop 10 = .ok (.aload_n 0, 1) := by decide +kernel
theorem d_Terms_pop_11 : decode b_Terms_pop 11 = .ok (.aload_n 0, 1) := by decide +kernel
theorem d_Terms_pop_12 : decode b_Terms_pop 12 = .ok (.invokevirtual 47, 3) := by decide +kernel
theorem d_Terms_pop_15 : decode b_Terms_pop 15 = .ok (.invokevirtual 62, 3) := by decide +kernel
theorem d_Terms_pop_18 : decode b_Terms_pop 18 = .ok (.putfield 34, 3) := by decide +kernel
theorem d_Terms_pop_21 : decode b_Terms_pop 21 = .ok (.aload_n 0, 1) := by decide +kernel
theorem d_Terms_pop_22 : decode b_Terms_pop 22 = .ok (.dup, 1) := by decide +kernel
theorem d_Terms_pop_23 : decode b_Terms_pop 23 = .ok (.getfield 38, 3) := by decide +kernel
theorem d_Terms_pop_26 : decode b_Terms_pop 26 = .ok (.iconst 1, 1) := by decide +kernel
theorem d_Terms_pop_27 : decode b_Terms_pop 27 = .ok (.isub, 1) := by decide +kernel
theorem d_Terms_pop_28 : decode b_Terms_pop 28 = .ok (.putfield 38, 3) := by decide +kernel
theorem d_Terms_pop_31 : decode b_Terms_pop 31 = .ok (.iconst 1, 1) := by decide +kernel
theorem d_Terms_pop_32 : decode b_Terms_pop 32 = .ok (.ireturn, 1) := by decide +kernel
def f_Terms_pop (T_nodes : Int) (T_count : Int) (T_firsts : Int → Int) : Option (Int × Int × Int) :=
  if rI T_count = true then (if T_count = 0 then (
   some (0, T_nodes, T_count)) else (
   Option.bind (f_Terms_last T_nodes) (fun r2 =>
    Option.bind (f_Terms_firstOf T_nodes T_firsts r2) (fun r4 =>
     some (1, r4, (T_count - 1)))))) else none
set_option maxHeartbeats 4000000 in
set_option maxRecDepth 100000 in
theorem c_Terms_pop {l : Launch} {D : va_G} {cI cL cB : ClassId} {ad : Nat → Nat} {T_nodes : Int} {T_count : Int} {T_firsts : Int → Int} {out : Int × Int × Int} (h : f_Terms_pop T_nodes T_count T_firsts = some out) : CT jF0 false l D [(cI, .int), (cL, .long), (cB, .byte)] y_Terms_pop w_Terms_pop ({ frames := 2, cells := 0, slots := 0, locals := 42 } : Room) [.ref (ad 1)] [(ad 1, .inr (1, [.ref (ad 2), .ref (ad 3), .ref (ad 4), .ref (ad 5), .ref (ad 6), .int (zI T_nodes), .int (zI T_count)])), (ad 4, .inl (cI, 200, .inl (zA T_firsts)))] (some (.int (zI out.1))) [(ad 1, .inr (1, [.ref (ad 2), .ref (ad 3), .ref (ad 4), .ref (ad 5), .ref (ad 6), .int (zI (out.2.1)), .int (zI (out.2.2))])), (ad 4, .inl (cI, 200, .inl (zA T_firsts)))] 0 0 := by
  refine CT_of_J (cc := b_Terms_pop) (maxL := 1) (ret := (some .boolean)) jF0_k (plainFor_of_name (by decide)) rfl (Nat.le_of_ble_eq_true rfl) ?_
  intro K hKl hKD X E
  subst hKl; subst hKD
  unfold f_Terms_pop at h
  refine J_aload_n X d_Terms_pop_0 rfl 0 rfl ?_
  refine J_get X (j_in in_Terms) 0 rfl rfl 6 (by decide) (j_m own_Terms_pop (by decide +kernel)) rfl d_Terms_pop_1 ?_
  refine J_if_ne (tgt := 9) X d_Terms_pop_4 (by decide) h (fun c1 h => ?_) (fun c1 h => ?_)
  · refine J_aload_n X d_Terms_pop_9 rfl 0 rfl ?_
    refine J_aload_n X d_Terms_pop_10 rfl 0 rfl ?_
    refine J_aload_n X d_Terms_pop_11 rfl 0 rfl ?_
    obtain ⟨r2, q3, h⟩ := wk_b h
    refine J_afterP (jrunV X (c_Terms_last (ad := ad) q3) jF0_k (fun _ _ _ _ => trivial) (jgV own_Terms_pop (by decide +kernel)) rfl rfl rfl pd_Terms_last (by decide) [0] rfl (by decide) 0 1 rfl rfl rfl rfl (Nat.le_of_ble_eq_true rfl) d_Terms_pop_12 (by decide)) ?_
    obtain ⟨r4, q5, h⟩ := wk_b h
    refine J_afterP (jrunV X (c_Terms_firstOf (ad := ad) q5) jF0_k (fun _ _ _ _ => trivial) (jgV own_Terms_pop (by decide +kernel)) rfl rfl rfl pd_Terms_firstOf (by decide) [0, 1] rfl (by decide) 0 1 rfl rfl rfl rfl (Nat.le_of_ble_eq_true rfl) d_Terms_pop_15 (by decide)) ?_
    refine J_put (ws' := [(ad 1, .inr (1, [.ref (ad 2), .ref (ad 3), .ref (ad 4), .ref (ad 5), .ref (ad 6), .int (zI r4), .int (zI T_count)])), (ad 4, .inl (cI, 200, .inl (zA T_firsts)))]) X (j_in in_Terms) ty_Terms tok_Terms nm_Terms 0 rfl rfl 5 (by decide) (j_m own_Terms_pop (by decide +kernel)) rfl rfl rfl (Nat.le_of_ble_eq_true rfl) d_Terms_pop_18 rfl ?_
    refine J_aload_n X d_Terms_pop_21 rfl 0 rfl ?_
    refine J_dup X d_Terms_pop_22 rfl ?_
    refine J_get X (j_in in_Terms) 0 rfl rfl 6 (by decide) (j_m own_Terms_pop (by decide +kernel)) rfl d_Terms_pop_23 ?_
    refine J_iconst X d_Terms_pop_26 ?_
    refine J_isub X d_Terms_pop_27 ?_
    refine J_put (ws' := [(ad 1, .inr (1, [.ref (ad 2), .ref (ad 3), .ref (ad 4), .ref (ad 5), .ref (ad 6), .int (zI r4), .int (zI (T_count - 1))])), (ad 4, .inl (cI, 200, .inl (zA T_firsts)))]) X (j_in in_Terms) ty_Terms tok_Terms nm_Terms 0 rfl rfl 6 (by decide) (j_m own_Terms_pop (by decide +kernel)) rfl rfl rfl (Nat.le_of_ble_eq_true rfl) d_Terms_pop_28 rfl ?_
    refine J_iconst X d_Terms_pop_31 ?_
    cases h
    exact J_ret E ⟨_, rfl, j_bool (Or.inr rfl)⟩ d_Terms_pop_32 (Nat.le_refl _) (Nat.le_refl _) rfl
  · refine J_iconst X d_Terms_pop_7 ?_
    cases h
    exact J_ret E ⟨_, rfl, j_bool (Or.inl rfl)⟩ d_Terms_pop_8 (Nat.le_refl _) (Nat.le_refl _) rfl

theorem d_Terms_canLengthen_0 : decode b_Terms_canLengthen 0 = .ok (.aload_n 0, 1) := by decide +kernel
theorem d_Terms_canLengthen_1 : decode b_Terms_canLengthen 1 = .ok (.aload_n 0, 1) := by decide +kernel
theorem d_Terms_canLengthen_2 : decode b_Terms_canLengthen 2 = .ok (.invokevirtual 47, 3) := by decide +kernel
theorem d_Terms_canLengthen_5 : decode b_Terms_canLengthen 5 = .ok (.invokevirtual 82, 3) := by decide +kernel
theorem d_Terms_canLengthen_8 : decode b_Terms_canLengthen 8 = .ok (.bipush 8, 2) := by decide +kernel
theorem d_Terms_canLengthen_10 : decode b_Terms_canLengthen 10 = .ok (.if_icmp .ne 25, 3) := by decide +kernel
theorem d_Terms_canLengthen_13 : decode b_Terms_canLengthen 13 = .ok (.aload_n 0, 1) := by decide +kernel
theorem d_Terms_canLengthen_14 : decode b_Terms_canLengthen 14 = .ok (.aload_n 0, 1) := by decide +kernel
theorem d_Terms_canLengthen_15 : decode b_Terms_canLengthen 15 = .ok (.invokevirtual 47, 3) := by decide +kernel
theorem d_Terms_canLengthen_18 : decode b_Terms_canLengthen 18 = .ok (.invokevirtual 85, 3) := by decide +kernel
theorem d_Terms_canLengthen_21 : decode b_Terms_canLengthen 21 = .ok (.iload_n 1, 1) := by decide +kernel
theorem d_Terms_canLengthen_22 : decode b_Terms_canLengthen 22 = .ok (.i2l, 1) := by decide +kernel
theorem d_Terms_canLengthen_23 : decode b_Terms_canLengthen 23 = .ok (.ladd, 1) := by decide +kernel
theorem d_Terms_canLengthen_24 : decode b_Terms_canLengthen 24 = .ok (.ldc2_w 89, 3) := by decide +kernel
theorem d_Terms_canLengthen_27 : decode b_Terms_canLengthen 27 = .ok (.lcmp, 1) := by decide +kernel
theorem d_Terms_canLengthen_28 : decode b_Terms_canLengthen 28 = .ok (.ifCond .gt 7, 3) := by decide +kernel
theorem d_Terms_canLengthen_31 : decode b_Terms_canLengthen 31 = .ok (.iconst 1, 1) := by decide +kernel
theorem d_Terms_canLengthen_32 : decode b_Terms_canLengthen 32 = .ok (.goto 4, 3) := by decide +kernel
theorem d_Terms_canLengthen_35 : decode b_Terms_canLengthen 35 = .ok (.iconst 0, 1) := by decide +kernel
theorem d_Terms_canLengthen_36 : decode b_Terms_canLengthen 36 = .ok (.ireturn, 1) := by decide +kernel
def f_Terms_canLengthen (T_nodes : Int) (T_kinds : Int → Int) (T_args : Int → Int) (p1 : Int) : Option (Int) :=
  Option.bind (f_Terms_last T_nodes) (fun r1 =>
   Option.bind (f_Terms_kindOf T_nodes T_kinds r1) (fun r3 =>
    if jr2 r3 8 = true then (if r3 = 8 then (
     Option.bind (f_Terms_last T_nodes) (fun r6 =>
      Option.bind (f_Terms_argOf T_nodes T_args r6) (fun r8 =>
       if rI p1 = true then (
        if jl2 (r8 + p1) 64 = true then (if 64 < (r8 + p1) then (
         some 0) else (
         some 1)) else none) else none))) else (
     some 0)) else none))
set_option maxHeartbeats 4000000 in
set_option maxRecDepth 100000 in
theorem c_Terms_canLengthen {l : Launch} {D : va_G} {cI cL cB : ClassId} {ad : Nat → Nat} {T_nodes : Int} {T_count : Int} {T_kinds : Int → Int} {T_args : Int → Int} {p1 : Int} {out : Int} (h : f_Terms_canLengthen T_nodes T_kinds T_args p1 = some out) : CT jF0 true l D [(cI, .int), (cL, .long), (cB, .byte)] y_Terms_canLengthen w_Terms_canLengthen ({ frames := 2, cells := 0, slots := 0, locals := 42 } : Room) [.ref (ad 1), .int (zI p1)] [(ad 1, .inr (1, [.ref (ad 2), .ref (ad 3), .ref (ad 4), .ref (ad 5), .ref (ad 6), .int (zI T_nodes), .int (zI T_count)])), (ad 2, .inl (cI, 200, .inl (zA T_kinds))), (ad 3, .inl (cL, 200, .inr (.inl (zB T_args))))] (some (.int (zI out))) [(ad 1, .inr (1, [.ref (ad 2), .ref (ad 3), .ref (ad 4), .ref (ad 5), .ref (ad 6), .int (zI T_nodes), .int (zI T_count)])), (ad 2, .inl (cI, 200, .inl (zA T_kinds))), (ad 3, .inl (cL, 200, .inr (.inl (zB T_args))))] 0 0 := by
  refine CT_of_J (cc := b_Terms_canLengthen) (maxL := 2) (ret := (some .boolean)) jF0_k (plainFor_of_name (by decide)) rfl (Nat.le_of_ble_eq_true rfl) ?_
  intro K hKl hKD X E
  subst hKl; subst hKD
  unfold f_Terms_canLengthen at h
  refine J_aload_n X d_Terms_canLengthen_0 rfl 0 rfl ?_
  refine J_aload_n X d_Terms_canLengthen_1 rfl 0 rfl ?_
  obtain ⟨r1, q2, h⟩ := wk_b h
  refine J_afterP (jrunV X (c_Terms_last (ad := ad) q2) jF0_k (fun _ _ _ _ => trivial) (jgV own_Terms_canLengthen (by decide +kernel)) rfl rfl rfl pd_Terms_last (by decide) [0] rfl (by decide) 0 1 rfl rfl rfl rfl (Nat.le_of_ble_eq_true rfl) d_Terms_canLengthen_2 (by decide)) ?_
  obtain ⟨r3, q4, h⟩ := wk_b h
  refine J_afterP (jrunV X (c_Terms_kindOf (ad := ad) q4) jF0_k (fun _ _ _ _ => trivial) (jgV own_Terms_canLengthen (by decide +kernel)) rfl rfl rfl pd_Terms_kindOf (by decide) [0, 1] rfl (by decide) 0 1 rfl rfl rfl rfl (Nat.le_of_ble_eq_true rfl) d_Terms_canLengthen_5 (by decide)) ?_
  refine J_bipush X d_Terms_canLengthen_8 (by decide) ?_
  refine J_icmp_ne (tgt := 35) X d_Terms_canLengthen_10 (by decide) h (fun c5 h => ?_) (fun c5 h => ?_)
  · refine J_iconst X d_Terms_canLengthen_35 ?_
    cases h
    exact J_ret E ⟨_, rfl, j_bool (Or.inl rfl)⟩ d_Terms_canLengthen_36 (Nat.le_refl _) (Nat.le_refl _) rfl
  · refine J_aload_n X d_Terms_canLengthen_13 rfl 0 rfl ?_
    refine J_aload_n X d_Terms_canLengthen_14 rfl 0 rfl ?_
    obtain ⟨r6, q7, h⟩ := wk_b h
    refine J_afterP (jrunV X (c_Terms_last (ad := ad) q7) jF0_k (fun _ _ _ _ => trivial) (jgV own_Terms_canLengthen (by decide +kernel)) rfl rfl rfl pd_Terms_last (by decide) [0] rfl (by decide) 0 1 rfl rfl rfl rfl (Nat.le_of_ble_eq_true rfl) d_Terms_canLengthen_15 (by decide)) ?_
    obtain ⟨r8, q9, h⟩ := wk_b h
    refine J_afterP (jrunV X (c_Terms_argOf (ad := ad) q9) jF0_k (fun _ _ _ _ => trivial) (jgV own_Terms_canLengthen (by decide +kernel)) rfl rfl rfl pd_Terms_argOf (by decide) [0, 2] rfl (by decide) 0 1 rfl rfl rfl rfl (Nat.le_of_ble_eq_true rfl) d_Terms_canLengthen_18 (by decide)) ?_
    refine J_iload_n X d_Terms_canLengthen_21 rfl 1 rfl ?_
    obtain ⟨g10, h⟩ := wk_g h
    refine J_i2l X g10 d_Terms_canLengthen_22 ?_
    refine J_ladd X d_Terms_canLengthen_23 ?_
    refine J_ldc2 (v := 64) (n := 64) X (j_m own_Terms_canLengthen (by decide +kernel)) (by decide) d_Terms_canLengthen_24 ?_
    refine J_lc_gt (tgt := 35) X d_Terms_canLengthen_27 d_Terms_canLengthen_28 (by decide) h (fun c11 h => ?_) (fun c11 h => ?_)
    · refine J_iconst X d_Terms_canLengthen_35 ?_
      cases h
      exact J_ret E ⟨_, rfl, j_bool (Or.inl rfl)⟩ d_Terms_canLengthen_36 (Nat.le_refl _) (Nat.le_refl _) rfl
    · refine J_iconst X d_Terms_canLengthen_31 ?_
      refine J_goto (tgt := 36) X d_Terms_canLengthen_32 (by decide) ?_
      cases h
      exact J_ret E ⟨_, rfl, j_bool (Or.inr rfl)⟩ d_Terms_canLengthen_36 (Nat.le_refl _) (Nat.le_refl _) rfl

theorem d_Terms_lengthen_0 : decode b_Terms_lengthen 0 = .ok (.iload_n 3, 1) := by decide +kernel
theorem d_Terms_lengthen_1 : decode b_Terms_lengthen 1 = .ok (.ifCond .lt 17, 3) := by decide +kernel
theorem d_Terms_lengthen_4 : decode b_Terms_lengthen 4 = .ok (.iload_n 3, 1) := by decide +kernel
theorem d_Terms_lengthen_5 : decode b_Terms_lengthen 5 = .ok (.bipush 8, 2) := by decide +kernel
theorem d_Terms_lengthen_7 : decode b_Terms_lengthen 7 = .ok (.if_icmp .gt 11, 3) := by decide +kernel
theorem d_Terms_lengthen_10 : decode b_Terms_lengthen 10 = .ok (.aload_n 0, 1) := by decide +kernel
theorem d_Terms_lengthen_11 : decode b_Terms_lengthen 11 = .ok (.iload_n 3, 1) := by decide +kernel
theorem d_Terms_lengthen_12 : decode b_Terms_lengthen 12 = .ok (.invokevirtual 91, 3) := by decide +kernel
theorem d_Terms_lengthen_15 : decode b_Terms_lengthen 15 = .ok (.ifCond .ne 4, 3) := by decide +kernel
theorem d_Terms_lengthen_18 : decode b_Terms_lengthen 18 = .ok (.return_, 1) := by decide +kernel
theorem d_Terms_lengthen_19 : decode b_Terms_lengthen 19 = .ok (.aload_n 0, 1) := by decide +kernel
theorem d_Terms_lengthen_20 : decode b_Terms_lengthen 20 = .ok (.invokevirtual 47, 3) := by decide +kernel
theorem d_Terms_lengthen_23 : decode b_Terms_lengthen 23 = .ok (.bipush 64, 2) := by decide +kernel
theorem d_Terms_lengthen_25 : decode b_Terms_lengthen 25 = .ok (.imul, 1) := by decide +kernel
theorem d_Terms_lengthen_26 : decode b_Terms_lengthen 26 = .ok (.aload_n 0, 1) := by decide +kernel
theorem d_Terms_lengthen_27 : decode b_Terms_lengthen 27 = .ok (.aload_n 0, 1) := by decide +kernel
theorem d_Terms_lengthen_28 : decode b_Terms_lengthen 28 = .ok (.invokevirtual 47, 3) := by decide +kernel
theorem d_Terms_lengthen_31 : decode b_Terms_lengthen 31 = .ok (.invokevirtual 85, 3) := by decide +kernel
theorem d_Terms_lengthen_34 : decode b_Terms_lengthen 34 = .ok (.l2i, 1) := by decide +kernel
theorem d_Terms_lengthen_35 : decode b_Terms_lengthen 35 = .ok (.iadd, 1) := by decide +kernel
theorem d_Terms_lengthen_36 : decode b_Terms_lengthen 36 = .ok (.istore 4, 2) := by decide +kernel
theorem d_Terms_lengthen_38 : decode b_Terms_lengthen 38 = .ok (.iconst 0, 1) := by decide +kernel
theorem d_Terms_lengthen_39 : decode b_Terms_lengthen 39 = .ok (.istore 5, 2) := by decide +kernel
theorem d_Terms_lengthen_41 : decode b_Terms_lengthen 41 = .ok (.iload 5, 2) := by decide +kernel
theorem d_Terms_lengthen_43 : decode b_Terms_lengthen 43 = .ok (.iload_n 3, 1) := by decide +kernel
theorem d_Terms_lengthen_44 : decode b_Terms_lengthen 44 = .ok (.if_icmp .ge 33, 3) := by decide +kernel
theorem d_Terms_lengthen_47 : decode b_Terms_lengthen 47 = .ok (.aload_n 0, 1) := by decide +kernel
theorem d_Terms_lengthen_48 : decode b_Terms_lengthen 48 = .ok (.getfield 30, 3) := by decide +kernel
theorem d_Terms_lengthen_51 : decode b_Terms_lengthen 51 = .ok (.iload 4, 2) := by decide +kernel
theorem d_Terms_lengthen_53 : decode b_Terms_lengthen 53 = .ok (.iload 5, 2) := by decide +kernel
theorem d_Terms_lengthen_55 : decode b_Terms_lengthen 55 = .ok (.iadd, 1) := by decide +kernel
theorem d_Terms_lengthen_56 : decode b_Terms_lengthen 56 = .ok (.lload_n 1, 1) := by decide +kernel
theorem d_Terms_lengthen_57 : decode b_Terms_lengthen 57 = .ok (.bipush 8, 2) := by decide +kernel
theorem d_Terms_lengthen_59 : decode b_Terms_lengthen 59 = .ok (.iload_n 3, 1) := by decide +kernel
theorem d_Terms_lengthen_60 : decode b_Terms_lengthen 60 = .ok (.iconst 1, 1) := by decide +kernel
theorem d_Terms_lengthen_61 : decode b_Terms_lengthen 61 = .ok (.isub, 1) := by decide +kernel
theorem d_Terms_lengthen_62 : decode b_Terms_lengthen 62 = .ok (.iload 5, 2) := by decide +kernel
theorem d_Terms_lengthen_64 : decode b_Terms_lengthen 64 = .ok (.isub, 1) := by decide +kernel
theorem d_Terms_lengthen_65 : decode b_Terms_lengthen 65 = .ok (.imul, 1) := by decide +kernel
theorem d_Terms_lengthen_66 : decode b_Terms_lengthen 66 = .ok (.lushr, 1) := by decide +kernel
theorem d_Terms_lengthen_67 : decode b_Terms_lengthen 67 = .ok (.l2i, 1) := by decide +kernel
theorem d_Terms_lengthen_68 : decode b_Terms_lengthen 68 = .ok (.invokevirtual 94, 3) := by decide +kernel
theorem d_Terms_lengthen_71 : decode b_Terms_lengthen 71 = .ok (.iinc 5 1, 3) := by decide +kernel
theorem d_Terms_lengthen_74 : decode b_Terms_lengthen 74 = .ok (.goto (-33), 3) := by decide +kernel
theorem d_Terms_lengthen_77 : decode b_Terms_lengthen 77 = .ok (.aload_n 0, 1) := by decide +kernel
theorem d_Terms_lengthen_78 : decode b_Terms_lengthen 78 = .ok (.getfield 15, 3) := by decide +kernel
theorem d_Terms_lengthen_81 : decode b_Terms_lengthen 81 = .ok (.aload_n 0, 1) := by decide +kernel
theorem d_Terms_lengthen_82 : decode b_Terms_lengthen 82 = .ok (.invokevirtual 47, 3) := by decide +kernel
theorem d_Terms_lengthen_85 : decode b_Terms_lengthen 85 = .ok (.dup2, 1) := by decide +kernel
theorem d_Terms_lengthen_86 : decode b_Terms_lengthen 86 = .ok (.laload, 1) := by decide +kernel
theorem d_Terms_lengthen_87 : decode b_Terms_lengthen 87 = .ok (.iload_n 3, 1) := by decide +kernel
theorem d_Terms_lengthen_88 : decode b_Terms_lengthen 88 = .ok (.i2l, 1) := by decide +kernel
theorem d_Terms_lengthen_89 : decode b_Terms_lengthen 89 = .ok (.ladd, 1) := by decide +kernel
theorem d_Terms_lengthen_90 : decode b_Terms_lengthen 90 = .ok (.lastore, 1) := by decide +kernel
theorem d_Terms_lengthen_91 : decode b_Terms_lengthen 91 = .ok (.return_, 1) := by decide +kernel
def f_Terms_lengthen_L41 (x1 : Int) (x3 : Int) (x4 : Int) : Nat → Int → (Int → Int) → Option (Int × (Int → Int))
  | 0, _, _ => none
  | n + 1, x5, TB_row =>
    if jr2 x5 x3 = true then (if x3 ≤ x5 then (
     some (x5, TB_row)) else (
     Option.bind (f_ByteRow_put 12800 TB_row (x4 + x5) (j_ushr x1 (8 * ((x3 - 1) - x5)))) (fun TB_row_21 =>
      f_Terms_lengthen_L41 x1 x3 x4 n (x5 + 1) TB_row_21))) else none
def f_Terms_lengthen (N : Nat) (T_nodes : Int) (T_kinds : Int → Int) (T_args : Int → Int) (TB_row : Int → Int) (p1 : Int) (p3 : Int) : Option ((Int → Int) × (Int → Int)) :=
  if rI p3 = true then (if p3 < 0 then (
   some (T_args, TB_row)) else (
   if jr2 p3 8 = true then (if 8 < p3 then (
    some (T_args, TB_row)) else (
    Option.bind (f_Terms_canLengthen T_nodes T_kinds T_args p3) (fun r3 =>
     if rI r3 = true then (if r3 = 0 then (
      some (T_args, TB_row)) else (
      Option.bind (f_Terms_last T_nodes) (fun r6 =>
       Option.bind (f_Terms_last T_nodes) (fun r8 =>
        Option.bind (f_Terms_argOf T_nodes T_args r8) (fun r10 =>
         ob2 (f_Terms_lengthen_L41 p1 p3 ((r6 * 64) + r10) N 0 TB_row) (fun x5_12 TB_row_13 =>
          Option.bind (f_Terms_last T_nodes) (fun r15 =>
           if jix r15 200 = true then (
            if rI p3 = true then (
             if jix r15 200 = true then (
              some ((upZ T_args r15 ((T_args r15) + p3)), TB_row_13)) else none) else none) else none))))))) else none))) else none)) else none
set_option maxHeartbeats 4000000 in
set_option maxRecDepth 100000 in
theorem k_Terms_lengthen_L41 {K : jK} {cI cL cB : ClassId} {ad : Nat → Nat} {x1 : Int} {x3 : Int} {x4 : Int} {T_nodes : Int} {T_count : Int} {T_kinds : Int → Int} {T_args : Int → Int} {TB_top : Int} {out : Int × (Int → Int)} (X : jX jF0 K 6 b_Terms_lengthen w_Terms_lengthen R_Terms [(cI, .int), (cL, .long), (cB, .byte)]) : ∀ (n : Nat) (x5 : Int) (TB_row : (Int → Int)), f_Terms_lengthen_L41 x1 x3 x4 n x5 TB_row = some out → J K 6 ({ frames := 3, cells := 0, slots := 0, locals := 63 } : Room) false 0 0 [(ad 1, .inr (1, [.ref (ad 2), .ref (ad 3), .ref (ad 4), .ref (ad 5), .ref (ad 6), .int (zI T_nodes), .int (zI T_count)])), (ad 2, .inl (cI, 200, .inl (zA T_kinds))), (ad 3, .inl (cL, 200, .inr (.inl (zB T_args)))), (ad 6, .inr (2, [.ref (ad 7), .int (zI TB_top)])), (ad 7, .inl (cB, 12800, .inl (zA (out.2))))] [(0, .ref (ad 1)), (1, .long (zL x1)), (3, .int (zI x3)), (4, .int (zI x4)), (5, .int (zI (out.1)))] [] 77 → J K 6 ({ frames := 3, cells := 0, slots := 0, locals := 63 } : Room) false 0 0 [(ad 1, .inr (1, [.ref (ad 2), .ref (ad 3), .ref (ad 4), .ref (ad 5), .ref (ad 6), .int (zI T_nodes), .int (zI T_count)])), (ad 2, .inl (cI, 200, .inl (zA T_kinds))), (ad 3, .inl (cL, 200, .inr (.inl (zB T_args)))), (ad 6, .inr (2, [.ref (ad 7), .int (zI TB_top)])), (ad 7, .inl (cB, 12800, .inl (zA TB_row)))] [(0, .ref (ad 1)), (1, .long (zL x1)), (3, .int (zI x3)), (4, .int (zI x4)), (5, .int (zI x5))] [] 41 := by
  intro n
  induction n with
  | zero =>
    intro x5 TB_row h hk
    cases h
  | succ n ih =>
    intro x5 TB_row h hk
    unfold f_Terms_lengthen_L41 at h
    refine J_iload X d_Terms_lengthen_41 4 rfl ?_
    refine J_iload_n X d_Terms_lengthen_43 rfl 2 rfl ?_
    refine J_icmp_ge (tgt := 77) X d_Terms_lengthen_44 (by decide) h (fun c20 h => ?_) (fun c20 h => ?_)
    · cases h
      refine J_lv (lv' := [(0, .ref (ad 1)), (1, .long (zL x1)), (3, .int (zI x3)), (4, .int (zI x4)), (5, .int (zI x5))]) [0, 1, 2, 3, 4] rfl ?_
      exact hk
    · refine J_aload_n X d_Terms_lengthen_47 rfl 0 rfl ?_
      refine J_get X (j_in in_Terms) 0 rfl rfl 4 (by decide) (j_m own_Terms_lengthen (by decide +kernel)) rfl d_Terms_lengthen_48 ?_
      refine J_iload X d_Terms_lengthen_51 3 rfl ?_
      refine J_iload X d_Terms_lengthen_53 4 rfl ?_
      refine J_iadd X d_Terms_lengthen_55 ?_
      refine J_lload_n X d_Terms_lengthen_56 rfl 1 rfl ?_
      refine J_bipush X d_Terms_lengthen_57 (by decide) ?_
      refine J_iload_n X d_Terms_lengthen_59 rfl 2 rfl ?_
      refine J_iconst X d_Terms_lengthen_60 ?_
      refine J_isub X d_Terms_lengthen_61 ?_
      refine J_iload X d_Terms_lengthen_62 4 rfl ?_
      refine J_isub X d_Terms_lengthen_64 ?_
      refine J_imul X d_Terms_lengthen_65 ?_
      refine J_lushr X d_Terms_lengthen_66 ?_
      refine J_l2i X d_Terms_lengthen_67 ?_
      obtain ⟨TB_row_21, q22, h⟩ := wk_b h
      refine J_afterI0 (ws' := [(ad 1, .inr (1, [.ref (ad 2), .ref (ad 3), .ref (ad 4), .ref (ad 5), .ref (ad 6), .int (zI T_nodes), .int (zI T_count)])), (ad 2, .inl (cI, 200, .inl (zA T_kinds))), (ad 3, .inl (cL, 200, .inr (.inl (zB T_args)))), (ad 6, .inr (2, [.ref (ad 7), .int (zI TB_top)])), (ad 7, .inl (cB, 12800, .inl (zA TB_row_21)))]) X (jrunV X (c_ByteRow_put (xa := ad 6) (xb := ad 7) q22) jF0_k (fun _ _ _ _ => trivial) (jgV own_Terms_lengthen (by decide +kernel)) rfl rfl rfl pd_ByteRow_put (by decide) [3, 4] rfl (by decide) 0 2 rfl rfl rfl rfl (Nat.le_of_ble_eq_true rfl) d_Terms_lengthen_68 (by decide)) [3, 4] [0, 1, 2] [0, 1, 2, 3, 4] rfl rfl (by decide) (by decide) rfl (by decide) ?_
      refine J_iinc (lv' := [(5, .int (zI (x5 + 1))), (0, .ref (ad 1)), (1, .long (zL x1)), (3, .int (zI x3)), (4, .int (zI x4))]) X d_Terms_lengthen_71 4 rfl (by decide) rfl ?_
      refine J_goto (tgt := 41) X d_Terms_lengthen_74 (by decide) ?_
      refine J_lv (lv' := [(0, .ref (ad 1)), (1, .long (zL x1)), (3, .int (zI x3)), (4, .int (zI x4)), (5, .int (zI (x5 + 1)))]) [1, 2, 3, 4, 0] rfl ?_
      exact ih _ _ h hk
set_option maxHeartbeats 4000000 in
set_option maxRecDepth 100000 in
theorem c_Terms_lengthen {l : Launch} {D : va_G} {cI cL cB : ClassId} {ad : Nat → Nat} {N : Nat} {T_nodes : Int} {T_count : Int} {T_kinds : Int → Int} {T_args : Int → Int} {TB_top : Int} {TB_row : Int → Int} {p1 : Int} {p3 : Int} {out : (Int → Int) × (Int → Int)} (h : f_Terms_lengthen N T_nodes T_kinds T_args TB_row p1 p3 = some out) : CT jF0 false l D [(cI, .int), (cL, .long), (cB, .byte)] y_Terms_lengthen w_Terms_lengthen ({ frames := 3, cells := 0, slots := 0, locals := 63 } : Room) [.ref (ad 1), .long (zL p1), .int (zI p3)] [(ad 1, .inr (1, [.ref (ad 2), .ref (ad 3), .ref (ad 4), .ref (ad 5), .ref (ad 6), .int (zI T_nodes), .int (zI T_count)])), (ad 2, .inl (cI, 200, .inl (zA T_kinds))), (ad 3, .inl (cL, 200, .inr (.inl (zB T_args)))), (ad 6, .inr (2, [.ref (ad 7), .int (zI TB_top)])), (ad 7, .inl (cB, 12800, .inl (zA TB_row)))] none [(ad 1, .inr (1, [.ref (ad 2), .ref (ad 3), .ref (ad 4), .ref (ad 5), .ref (ad 6), .int (zI T_nodes), .int (zI T_count)])), (ad 2, .inl (cI, 200, .inl (zA T_kinds))), (ad 3, .inl (cL, 200, .inr (.inl (zB (out.1))))), (ad 6, .inr (2, [.ref (ad 7), .int (zI TB_top)])), (ad 7, .inl (cB, 12800, .inl (zA (out.2))))] 0 0 := by
  refine CT_of_J (cc := b_Terms_lengthen) (maxL := 6) (ret := none) jF0_k (plainFor_of_name (by decide)) rfl (Nat.le_of_ble_eq_true rfl) ?_
  intro K hKl hKD X E
  subst hKl; subst hKD
  unfold f_Terms_lengthen at h
  refine J_iload_n X d_Terms_lengthen_0 rfl 2 rfl ?_
  refine J_if_lt (tgt := 18) X d_Terms_lengthen_1 (by decide) h (fun c1 h => ?_) (fun c1 h => ?_)
  · cases h
    exact J_ret E rfl d_Terms_lengthen_18 (Nat.le_refl _) (Nat.le_refl _) rfl
  · refine J_iload_n X d_Terms_lengthen_4 rfl 2 rfl ?_
    refine J_bipush X d_Terms_lengthen_5 (by decide) ?_
    refine J_icmp_gt (tgt := 18) X d_Terms_lengthen_7 (by decide) h (fun c2 h => ?_) (fun c2 h => ?_)
    · cases h
      exact J_ret E rfl d_Terms_lengthen_18 (Nat.le_refl _) (Nat.le_refl _) rfl
    · refine J_aload_n X d_Terms_lengthen_10 rfl 0 rfl ?_
      refine J_iload_n X d_Terms_lengthen_11 rfl 2 rfl ?_
      obtain ⟨r3, q4, h⟩ := wk_b h
      refine J_afterP (jrunV X (c_Terms_canLengthen (ad := ad) q4) jF0_k (fun _ _ _ _ => trivial) (jgV own_Terms_lengthen (by decide +kernel)) rfl rfl rfl pd_Terms_canLengthen (by decide) [0, 1, 2] rfl (by decide) 0 1 rfl rfl rfl rfl (Nat.le_of_ble_eq_true rfl) d_Terms_lengthen_12 (by decide)) ?_
      refine J_if_ne (tgt := 19) X d_Terms_lengthen_15 (by decide) h (fun c5 h => ?_) (fun c5 h => ?_)
      · refine J_aload_n X d_Terms_lengthen_19 rfl 0 rfl ?_
        obtain ⟨r6, q7, h⟩ := wk_b h
        refine J_afterP (jrunV X (c_Terms_last (ad := ad) q7) jF0_k (fun _ _ _ _ => trivial) (jgV own_Terms_lengthen (by decide +kernel)) rfl rfl rfl pd_Terms_last (by decide) [0] rfl (by decide) 0 1 rfl rfl rfl rfl (Nat.le_of_ble_eq_true rfl) d_Terms_lengthen_20 (by decide)) ?_
        refine J_bipush X d_Terms_lengthen_23 (by decide) ?_
        refine J_imul X d_Terms_lengthen_25 ?_
        refine J_aload_n X d_Terms_lengthen_26 rfl 0 rfl ?_
        refine J_aload_n X d_Terms_lengthen_27 rfl 0 rfl ?_
        obtain ⟨r8, q9, h⟩ := wk_b h
        refine J_afterP (jrunV X (c_Terms_last (ad := ad) q9) jF0_k (fun _ _ _ _ => trivial) (jgV own_Terms_lengthen (by decide +kernel)) rfl rfl rfl pd_Terms_last (by decide) [0] rfl (by decide) 0 1 rfl rfl rfl rfl (Nat.le_of_ble_eq_true rfl) d_Terms_lengthen_28 (by decide)) ?_
        obtain ⟨r10, q11, h⟩ := wk_b h
        refine J_afterP (jrunV X (c_Terms_argOf (ad := ad) q11) jF0_k (fun _ _ _ _ => trivial) (jgV own_Terms_lengthen (by decide +kernel)) rfl rfl rfl pd_Terms_argOf (by decide) [0, 2] rfl (by decide) 0 1 rfl rfl rfl rfl (Nat.le_of_ble_eq_true rfl) d_Terms_lengthen_31 (by decide)) ?_
        refine J_l2i X d_Terms_lengthen_34 ?_
        refine J_iadd X d_Terms_lengthen_35 ?_
        refine J_istore (lv' := [(4, .int (zI ((r6 * 64) + r10))), (0, .ref (ad 1)), (1, .long (zL p1)), (3, .int (zI p3))]) X d_Terms_lengthen_36 (by decide) rfl ?_
        refine J_iconst X d_Terms_lengthen_38 ?_
        refine J_istore (lv' := [(5, .int (zI 0)), (4, .int (zI ((r6 * 64) + r10))), (0, .ref (ad 1)), (1, .long (zL p1)), (3, .int (zI p3))]) X d_Terms_lengthen_39 (by decide) rfl ?_
        refine J_lv (lv' := [(0, .ref (ad 1)), (1, .long (zL p1)), (3, .int (zI p3)), (4, .int (zI ((r6 * 64) + r10))), (5, .int (zI 0))]) [2, 3, 4, 1, 0] rfl ?_
        obtain ⟨x5_12, TB_row_13, q14, h⟩ := wk_b2 h
        refine k_Terms_lengthen_L41 X _ _ _ q14 ?_
        refine J_aload_n X d_Terms_lengthen_77 rfl 0 rfl ?_
        refine J_get X (j_in in_Terms) 0 rfl rfl 1 (by decide) (j_m own_Terms_lengthen (by decide +kernel)) rfl d_Terms_lengthen_78 ?_
        refine J_aload_n X d_Terms_lengthen_81 rfl 0 rfl ?_
        obtain ⟨r15, q16, h⟩ := wk_b h
        refine J_afterP (jrunV X (c_Terms_last (ad := ad) q16) jF0_k (fun _ _ _ _ => trivial) (jgV own_Terms_lengthen (by decide +kernel)) rfl rfl rfl pd_Terms_last (by decide) [0] rfl (by decide) 0 1 rfl rfl rfl rfl (Nat.le_of_ble_eq_true rfl) d_Terms_lengthen_82 (by decide)) ?_
        refine J_dup2 X d_Terms_lengthen_85 rfl rfl ?_
        obtain ⟨g17, h⟩ := wk_g h
        refine J_lald X 2 1 rfl rfl g17 d_Terms_lengthen_86 ?_
        refine J_iload_n X d_Terms_lengthen_87 rfl 2 rfl ?_
        obtain ⟨g18, h⟩ := wk_g h
        refine J_i2l X g18 d_Terms_lengthen_88 ?_
        refine J_ladd X d_Terms_lengthen_89 ?_
        obtain ⟨g19, h⟩ := wk_g h
        refine J_last (ws' := [(ad 1, .inr (1, [.ref (ad 2), .ref (ad 3), .ref (ad 4), .ref (ad 5), .ref (ad 6), .int (zI T_nodes), .int (zI T_count)])), (ad 2, .inl (cI, 200, .inl (zA T_kinds))), (ad 3, .inl (cL, 200, .inr (.inl (zB (upZ T_args r15 ((T_args r15) + p3)))))), (ad 6, .inr (2, [.ref (ad 7), .int (zI TB_top)])), (ad 7, .inl (cB, 12800, .inl (zA TB_row_13)))]) X 2 1 rfl rfl g19 d_Terms_lengthen_90 rfl ?_
        cases h
        exact J_ret E rfl d_Terms_lengthen_91 (Nat.le_refl _) (Nat.le_refl _) rfl
      · cases h
        exact J_ret E rfl d_Terms_lengthen_18 (Nat.le_refl _) (Nat.le_refl _) rfl
