def f_B_leads (n : Nat) (G : Nat → Nat → Int32) : Int32 := (if (G n 4) = 0 then 0 else (if (G n 6) = (G n 0) then 1 else 0))
theorem e_B_leads : y_B_leads.cls ≠ "java/lang/invoke/MethodHandle" ∧ y_B_leads.cls ≠ "java/lang/invoke/VarHandle" ∧ (parseMethodDescriptor y_B_leads.desc).map (fun d => d.parameters.length) = some 0 := by decide +kernel
set_option maxHeartbeats 4000000 in
set_option maxRecDepth 100000 in
theorem m_B_leads (l : Launch) (D : va_G) (cI cZ cB cM : ClassId) (a : Nat → Nat) (hJ : xJ 56 a) (P : Nat → Nat) (G : Nat → Nat → Int32) (n : Nat) (n_1 : 2 ≤ n) (n_2 : n < 6) : Met l y_B_leads (Cond.code y_B_leads prog_2_method_2_code 1 (Option.some FieldType.boolean) :: wsBig) { frames := 0, cells := 0, slots := 0, locals := 0 } (xP D xcl (xty cI cZ cB cM) 56 a (kg (kC cI cB cM a P) G) [.ref (a n)]) (xQi D xcl 56 a (f_B_leads n G) (kg (kC cI cB cM a P) G)) 0 0 (xA 56 a) := by
  refine X_met (by decide) rfl (Nat.le_of_ble_eq_true rfl) hJ (fun Y s m args Γ => ?_)
  show X Y s m D xcl 56 a 1 (kg (kC cI cB cM a P) G) 0 [(0, .ref (a n))] []
  have E := f_B_leads.eq_1 n G
  refine X_aload_n Γ d_B_leads_0 rfl 0 rfl rfl ?_
  refine X_get Γ d_B_leads_1 (Nat.lt_of_lt_of_le n_2 (by decide : 6 ≤ 56)) (kC_B n_1 n_2) rfl in_B 4 (by decide) w154 rfl rfl rfl ?_
  refine X_if_eq (tgt := 22) Γ d_B_leads_4 (by decide) rfl (fun h4 => ?_) (fun h4 => ?_)
  · replace E := E.trans (if_pos h4)
    refine X_iconst (v := 0) Γ d_B_leads_22 (by decide) rfl ?_
    exact X_iretz Γ d_B_leads_23 rfl E.symm rfl
  · replace E := E.trans (if_neg h4)
    refine X_aload_n Γ d_B_leads_7 rfl 0 rfl rfl ?_
    refine X_get Γ d_B_leads_8 (Nat.lt_of_lt_of_le n_2 (by decide : 6 ≤ 56)) (kC_B n_1 n_2) rfl in_B 6 (by decide) w159 rfl rfl rfl ?_
    refine X_aload_n Γ d_B_leads_11 rfl 0 rfl rfl ?_
    refine X_get Γ d_B_leads_12 (Nat.lt_of_lt_of_le n_2 (by decide : 6 ≤ 56)) (kC_B n_1 n_2) rfl in_B 0 (by decide) w148 rfl rfl rfl ?_
    refine X_icmp_ne (tgt := 22) Γ d_B_leads_15 (by decide) rfl (fun h15 => ?_) (fun h15 => ?_)
    · replace E := E.trans (if_neg h15)
      refine X_iconst (v := 0) Γ d_B_leads_22 (by decide) rfl ?_
      exact X_iretz Γ d_B_leads_23 rfl E.symm rfl
    · replace E := E.trans (if_pos h15)
      refine X_iconst (v := 1) Γ d_B_leads_18 (by decide) rfl ?_
      refine X_goto (pc' := 23) Γ d_B_leads_19 (by decide) ?_
      exact X_iretz Γ d_B_leads_23 rfl E.symm rfl
def f_B_fact (n : Nat) (x1 : Int32) (G : Nat → Nat → Int32) : Int32 := (if x1 = 0 then (if (G n 4) = 0 then 0 else 1) else (if x1 = 1 then (G n 5) else (if x1 = 2 then (G n 6) else (if x1 = 3 then (if ((f_B_leads n G)) = 0 then 0 else (G n 11)) else (if x1 = 4 then (G (n + 4) 2) else (if x1 = 5 then (G n 7) else (if x1 = 6 then (G n 8) else (-1))))))))
theorem e_B_fact : y_B_fact.cls ≠ "java/lang/invoke/MethodHandle" ∧ y_B_fact.cls ≠ "java/lang/invoke/VarHandle" ∧ (parseMethodDescriptor y_B_fact.desc).map (fun d => d.parameters.length) = some 1 := by decide +kernel
set_option maxHeartbeats 4000000 in
set_option maxRecDepth 100000 in
theorem m_B_fact (l : Launch) (D : va_G) (cI cZ cB cM : ClassId) (a : Nat → Nat) (hJ : xJ 56 a) (P : Nat → Nat) (G : Nat → Nat → Int32) (n : Nat) (n_1 : 2 ≤ n) (n_2 : n < 6) (x1 : Int32) : Met l y_B_fact (Cond.code y_B_fact prog_2_method_3_code 2 (Option.some FieldType.int) :: wsBig) { frames := 1, cells := 0, slots := 0, locals := 20 } (xP D xcl (xty cI cZ cB cM) 56 a (kg (kC cI cB cM a P) G) [.ref (a n), .int x1]) (xQi D xcl 56 a (f_B_fact n x1 G) (kg (kC cI cB cM a P) G)) 0 0 (xA 56 a) := by
  refine X_met (by decide) rfl (Nat.le_of_ble_eq_true rfl) hJ (fun Y s m args Γ => ?_)
  show X Y s m D xcl 56 a 2 (kg (kC cI cB cM a P) G) 0 [(0, .ref (a n)), (1, .int x1)] []
  have E := f_B_fact.eq_1 n x1 G
  refine X_iload_n Γ d_B_fact_0 rfl 1 rfl rfl ?_
  by_cases h1_0 : x1 = 0
  · replace E := E.trans (if_pos h1_0)
    refine X_tableIn (pc' := 44) (off := 43) Γ d_B_fact_1 h1_0 (by decide) (by decide) (by decide) (by decide) ?_
    refine X_aload_n Γ d_B_fact_44 rfl 0 rfl rfl ?_
    refine X_get Γ d_B_fact_45 (Nat.lt_of_lt_of_le n_2 (by decide : 6 ≤ 56)) (kC_B n_1 n_2) rfl in_B 4 (by decide) w154 rfl rfl rfl ?_
    refine X_if_eq (tgt := 55) Γ d_B_fact_48 (by decide) rfl (fun h48 => ?_) (fun h48 => ?_)
    · replace E := E.trans (if_pos h48)
      refine X_iconst (v := 0) Γ d_B_fact_55 (by decide) rfl ?_
      exact X_ireti Γ d_B_fact_56 E.symm rfl
    · replace E := E.trans (if_neg h48)
      refine X_iconst (v := 1) Γ d_B_fact_51 (by decide) rfl ?_
      refine X_goto (pc' := 56) Γ d_B_fact_52 (by decide) ?_
      exact X_ireti Γ d_B_fact_56 E.symm rfl
  replace E := E.trans (if_neg h1_0)
  by_cases h1_1 : x1 = 1
  · replace E := E.trans (if_pos h1_1)
    refine X_tableIn (pc' := 57) (off := 56) Γ d_B_fact_1 h1_1 (by decide) (by decide) (by decide) (by decide) ?_
    refine X_aload_n Γ d_B_fact_57 rfl 0 rfl rfl ?_
    refine X_get Γ d_B_fact_58 (Nat.lt_of_lt_of_le n_2 (by decide : 6 ≤ 56)) (kC_B n_1 n_2) rfl in_B 5 (by decide) w156 rfl rfl rfl ?_
    exact X_ireti Γ d_B_fact_61 E.symm rfl
  replace E := E.trans (if_neg h1_1)
  by_cases h1_2 : x1 = 2
  · replace E := E.trans (if_pos h1_2)
    refine X_tableIn (pc' := 62) (off := 61) Γ d_B_fact_1 h1_2 (by decide) (by decide) (by decide) (by decide) ?_
    refine X_aload_n Γ d_B_fact_62 rfl 0 rfl rfl ?_
    refine X_get Γ d_B_fact_63 (Nat.lt_of_lt_of_le n_2 (by decide : 6 ≤ 56)) (kC_B n_1 n_2) rfl in_B 6 (by decide) w159 rfl rfl rfl ?_
    exact X_ireti Γ d_B_fact_66 E.symm rfl
  replace E := E.trans (if_neg h1_2)
  by_cases h1_3 : x1 = 3
  · replace E := E.trans (if_pos h1_3)
    refine X_tableIn (pc' := 67) (off := 66) Γ d_B_fact_1 h1_3 (by decide) (by decide) (by decide) (by decide) ?_
    refine X_aload_n Γ d_B_fact_67 rfl 0 rfl rfl ?_
    refine X_callVi (rest := []) Γ d_B_fact_68 (m_B_leads l D cI cZ cB cM a hJ P G n n_1 n_2) (Nat.lt_of_lt_of_le n_2 (by decide : 6 ≤ 56)) (kC_B n_1 n_2) rfl rfl w364 w230 s_B_leads w6 w231 e_B_leads ⟨by decide, by decide⟩ ⟨rfl, rfl⟩ rfl rfl (Nat.le_of_ble_eq_true rfl) rfl ?_
    refine X_if_eq (tgt := 81) Γ d_B_fact_71 (by decide) rfl (fun h71 => ?_) (fun h71 => ?_)
    · replace E := E.trans (if_pos h71)
      refine X_iconst (v := 0) Γ d_B_fact_81 (by decide) rfl ?_
      exact X_ireti Γ d_B_fact_82 E.symm rfl
    · replace E := E.trans (if_neg h71)
      refine X_aload_n Γ d_B_fact_74 rfl 0 rfl rfl ?_
      refine X_get Γ d_B_fact_75 (Nat.lt_of_lt_of_le n_2 (by decide : 6 ≤ 56)) (kC_B n_1 n_2) rfl in_B 11 (by decide) w168 rfl rfl rfl ?_
      refine X_goto (pc' := 82) Γ d_B_fact_78 (by decide) ?_
      exact X_ireti Γ d_B_fact_82 E.symm rfl
  replace E := E.trans (if_neg h1_3)
  by_cases h1_4 : x1 = 4
  · replace E := E.trans (if_pos h1_4)
    refine X_tableIn (pc' := 83) (off := 82) Γ d_B_fact_1 h1_4 (by decide) (by decide) (by decide) (by decide) ?_
    refine X_aload_n Γ d_B_fact_83 rfl 0 rfl rfl ?_
    refine X_get Γ d_B_fact_84 (Nat.lt_of_lt_of_le n_2 (by decide : 6 ≤ 56)) (kC_B n_1 n_2) rfl in_B 1 (by decide) w150 rfl rfl rfl ?_
    refine X_getN Γ d_B_fact_87 (Nat.lt_of_lt_of_le (Nat.lt_of_lt_of_le (Nat.add_lt_add_right n_2 4) (by decide : 6 + 4 ≤ 10)) (by decide : 10 ≤ 56)) (kC_L (Nat.le_trans (by decide : 6 ≤ 2 + 4) (Nat.add_le_add_right n_1 4)) (Nat.lt_of_lt_of_le (Nat.add_lt_add_right n_2 4) (by decide : 6 + 4 ≤ 10))) rfl in_L 2 (by decide) w136 rfl rfl rfl ?_
    exact X_ireti Γ d_B_fact_90 E.symm rfl
  replace E := E.trans (if_neg h1_4)
  by_cases h1_5 : x1 = 5
  · replace E := E.trans (if_pos h1_5)
    refine X_tableIn (pc' := 91) (off := 90) Γ d_B_fact_1 h1_5 (by decide) (by decide) (by decide) (by decide) ?_
    refine X_aload_n Γ d_B_fact_91 rfl 0 rfl rfl ?_
    refine X_get Γ d_B_fact_92 (Nat.lt_of_lt_of_le n_2 (by decide : 6 ≤ 56)) (kC_B n_1 n_2) rfl in_B 7 (by decide) w161 rfl rfl rfl ?_
    exact X_ireti Γ d_B_fact_95 E.symm rfl
  replace E := E.trans (if_neg h1_5)
  by_cases h1_6 : x1 = 6
  · replace E := E.trans (if_pos h1_6)
    refine X_tableIn (pc' := 96) (off := 95) Γ d_B_fact_1 h1_6 (by decide) (by decide) (by decide) (by decide) ?_
    refine X_aload_n Γ d_B_fact_96 rfl 0 rfl rfl ?_
    refine X_get Γ d_B_fact_97 (Nat.lt_of_lt_of_le n_2 (by decide : 6 ≤ 56)) (kC_B n_1 n_2) rfl in_B 8 (by decide) w163 rfl rfl rfl ?_
    exact X_ireti Γ d_B_fact_100 E.symm rfl
  replace E := E.trans (if_neg h1_6)
  refine X_tableOut (pc' := 101) Γ d_B_fact_1 (tb_0_6 h1_0 h1_1 h1_2 h1_3 h1_4 h1_5 h1_6) (by decide) ?_
  refine X_iconst (v := (-1)) Γ d_B_fact_101 (by decide) rfl ?_
  exact X_ireti Γ d_B_fact_102 E.symm rfl
def f_B_goDown (n : Nat) (G : Nat → Nat → Int32) : (Nat → Nat → Int32) := (g2 (g2 (g2 (g2 G n 4 0) n 5 0) n 6 (-1)) n 9 0)
theorem e_B_goDown : y_B_goDown.cls ≠ "java/lang/invoke/MethodHandle" ∧ y_B_goDown.cls ≠ "java/lang/invoke/VarHandle" ∧ (parseMethodDescriptor y_B_goDown.desc).map (fun d => d.parameters.length) = some 0 := by decide +kernel
set_option maxHeartbeats 4000000 in
set_option maxRecDepth 100000 in
theorem m_B_goDown (l : Launch) (D : va_G) (cI cZ cB cM : ClassId) (a : Nat → Nat) (hJ : xJ 56 a) (P : Nat → Nat) (G : Nat → Nat → Int32) (n : Nat) (n_1 : 2 ≤ n) (n_2 : n < 6) : Met l y_B_goDown (Cond.code y_B_goDown prog_2_method_5_code 1 (Option.none : Option FieldType) :: wsBig) { frames := 0, cells := 0, slots := 0, locals := 0 } (xP D xcl (xty cI cZ cB cM) 56 a (kg (kC cI cB cM a P) G) [.ref (a n)]) (xQv D xcl 56 a (kg (kC cI cB cM a P) (f_B_goDown n G))) 0 0 (xA 56 a) := by
  refine X_met (by decide) rfl (Nat.le_of_ble_eq_true rfl) hJ (fun Y s m args Γ => ?_)
  show X Y s m D xcl 56 a 1 (kg (kC cI cB cM a P) G) 0 [(0, .ref (a n))] []
  have E := f_B_goDown.eq_1 n G
  refine X_aload_n Γ d_B_goDown_0 rfl 0 rfl rfl ?_
  refine X_iconst (v := 0) Γ d_B_goDown_1 (by decide) rfl ?_
  refine X_put (ty := .boolean) Γ d_B_goDown_2 (Nat.lt_of_lt_of_le n_2 (by decide : 6 ≤ 56)) (kC_B n_1 n_2) rfl in_B 4 (by decide) w154 rfl ty_B ty_B_ok nm_B rfl (by decide +kernel) rfl rfl (Nat.le_of_ble_eq_true rfl) (kp_B_4 n_1 n_2) rfl ?_
  refine X_aload_n Γ d_B_goDown_5 rfl 0 rfl rfl ?_
  refine X_iconst (v := 0) Γ d_B_goDown_6 (by decide) rfl ?_
  refine X_put (ty := .int) Γ d_B_goDown_7 (Nat.lt_of_lt_of_le n_2 (by decide : 6 ≤ 56)) (kC_B n_1 n_2) rfl in_B 5 (by decide) w156 rfl ty_B ty_B_ok nm_B rfl (by decide +kernel) rfl rfl (Nat.le_of_ble_eq_true rfl) (kp_B_5 n_1 n_2) rfl ?_
  refine X_aload_n Γ d_B_goDown_10 rfl 0 rfl rfl ?_
  refine X_iconst (v := (-1)) Γ d_B_goDown_11 (by decide) rfl ?_
  refine X_put (ty := .int) Γ d_B_goDown_12 (Nat.lt_of_lt_of_le n_2 (by decide : 6 ≤ 56)) (kC_B n_1 n_2) rfl in_B 6 (by decide) w159 rfl ty_B ty_B_ok nm_B rfl (by decide +kernel) rfl rfl (Nat.le_of_ble_eq_true rfl) (kp_B_6 n_1 n_2) rfl ?_
  refine X_aload_n Γ d_B_goDown_15 rfl 0 rfl rfl ?_
  refine X_iconst (v := 0) Γ d_B_goDown_16 (by decide) rfl ?_
  refine X_put (ty := .boolean) Γ d_B_goDown_17 (Nat.lt_of_lt_of_le n_2 (by decide : 6 ≤ 56)) (kC_B n_1 n_2) rfl in_B 9 (by decide) w165 rfl ty_B ty_B_ok nm_B rfl (by decide +kernel) rfl rfl (Nat.le_of_ble_eq_true rfl) (kp_B_9 n_1 n_2) rfl ?_
  exact X_vret Γ d_B_goDown_20 (gv_eq E)
def f_B_adopt (n : Nat) (x2 : Int32) (G : Nat → Nat → Int32) : (Nat → Nat → Int32) := (if ((f_B_leads n (g2 (g2 (g2 G n 5 (G 26 0)) n 6 ((g2 G n 5 (G 26 0)) 26 1)) n 9 0))) = 0 then (g2 (g2 (g2 G n 5 (G 26 0)) n 6 ((g2 G n 5 (G 26 0)) 26 1)) n 9 0) else ((f_Arr_fill (n + 20) 4 x2 ((f_Arr_fill (n + 16) 4 (-1) (g2 (g2 (g2 (g2 (g2 G n 5 (G 26 0)) n 6 ((g2 G n 5 (G 26 0)) 26 1)) n 9 0) n 10 ((g2 (g2 (g2 G n 5 (G 26 0)) n 6 ((g2 G n 5 (G 26 0)) 26 1)) n 9 0) (n + 4) 2)) n 11 ((g2 (g2 (g2 (g2 G n 5 (G 26 0)) n 6 ((g2 G n 5 (G 26 0)) 26 1)) n 9 0) n 10 ((g2 (g2 (g2 G n 5 (G 26 0)) n 6 ((g2 G n 5 (G 26 0)) 26 1)) n 9 0) (n + 4) 2)) 26 2)))))))
theorem e_B_adopt : y_B_adopt.cls ≠ "java/lang/invoke/MethodHandle" ∧ y_B_adopt.cls ≠ "java/lang/invoke/VarHandle" ∧ (parseMethodDescriptor y_B_adopt.desc).map (fun d => d.parameters.length) = some 2 := by decide +kernel
set_option maxHeartbeats 4000000 in
set_option maxRecDepth 100000 in
theorem m_B_adopt (l : Launch) (D : va_G) (cI cZ cB cM : ClassId) (a : Nat → Nat) (hJ : xJ 56 a) (P : Nat → Nat) (G : Nat → Nat → Int32) (n : Nat) (n_1 : 2 ≤ n) (n_2 : n < 6) (x2 : Int32) : Met l y_B_adopt (Cond.code y_B_adopt prog_2_method_4_code 3 (Option.none : Option FieldType) :: wsBig) { frames := 1, cells := 0, slots := 0, locals := 23 } (xP D xcl (xty cI cZ cB cM) 56 a (kg (kC cI cB cM a P) G) [.ref (a n), .ref (a 26), .int x2]) (xQv D xcl 56 a (kg (kC cI cB cM a P) (f_B_adopt n x2 G))) 0 0 (xA 56 a) := by
  refine X_met (by decide) rfl (Nat.le_of_ble_eq_true rfl) hJ (fun Y s m args Γ => ?_)
  show X Y s m D xcl 56 a 3 (kg (kC cI cB cM a P) G) 0 [(0, .ref (a n)), (1, .ref (a 26)), (2, .int x2)] []
  have E := f_B_adopt.eq_1 n x2 G
  refine X_aload_n Γ d_B_adopt_0 rfl 0 rfl rfl ?_
  refine X_aload_n Γ d_B_adopt_1 rfl 1 rfl rfl ?_
  refine X_getN Γ d_B_adopt_2 (by decide) kC_T rfl in_T 0 (by decide) w35 rfl rfl rfl ?_
  refine X_put (ty := .int) Γ d_B_adopt_5 (Nat.lt_of_lt_of_le n_2 (by decide : 6 ≤ 56)) (kC_B n_1 n_2) rfl in_B 5 (by decide) w156 rfl ty_B ty_B_ok nm_B rfl (by decide +kernel) rfl rfl (Nat.le_of_ble_eq_true rfl) (kp_B_5 n_1 n_2) rfl ?_
  refine X_aload_n Γ d_B_adopt_8 rfl 0 rfl rfl ?_
  refine X_aload_n Γ d_B_adopt_9 rfl 1 rfl rfl ?_
  refine X_getN Γ d_B_adopt_10 (by decide) kC_T rfl in_T 1 (by decide) w38 rfl rfl rfl ?_
  refine X_put (ty := .int) Γ d_B_adopt_13 (Nat.lt_of_lt_of_le n_2 (by decide : 6 ≤ 56)) (kC_B n_1 n_2) rfl in_B 6 (by decide) w159 rfl ty_B ty_B_ok nm_B rfl (by decide +kernel) rfl rfl (Nat.le_of_ble_eq_true rfl) (kp_B_6 n_1 n_2) rfl ?_
  refine X_aload_n Γ d_B_adopt_16 rfl 0 rfl rfl ?_
  refine X_iconst (v := 0) Γ d_B_adopt_17 (by decide) rfl ?_
  refine X_put (ty := .boolean) Γ d_B_adopt_18 (Nat.lt_of_lt_of_le n_2 (by decide : 6 ≤ 56)) (kC_B n_1 n_2) rfl in_B 9 (by decide) w165 rfl ty_B ty_B_ok nm_B rfl (by decide +kernel) rfl rfl (Nat.le_of_ble_eq_true rfl) (kp_B_9 n_1 n_2) rfl ?_
  refine X_aload_n Γ d_B_adopt_21 rfl 0 rfl rfl ?_
  refine X_callVi (rest := []) Γ d_B_adopt_22 (m_B_leads l D cI cZ cB cM a hJ P (g2 (g2 (g2 G n 5 (G 26 0)) n 6 ((g2 G n 5 (G 26 0)) 26 1)) n 9 0) n n_1 n_2) (Nat.lt_of_lt_of_le n_2 (by decide : 6 ≤ 56)) (kC_B n_1 n_2) rfl rfl w364 w230 s_B_leads w6 w231 e_B_leads ⟨by decide, by decide⟩ ⟨rfl, rfl⟩ rfl rfl (Nat.le_of_ble_eq_true rfl) rfl ?_
  refine X_if_eq (tgt := 63) Γ d_B_adopt_25 (by decide) rfl (fun h25 => ?_) (fun h25 => ?_)
  · replace E := E.trans (if_pos h25)
    exact X_vret Γ d_B_adopt_63 (gv_eq E)
  · replace E := E.trans (if_neg h25)
    refine X_aload_n Γ d_B_adopt_28 rfl 0 rfl rfl ?_
    refine X_aload_n Γ d_B_adopt_29 rfl 0 rfl rfl ?_
    refine X_get Γ d_B_adopt_30 (Nat.lt_of_lt_of_le n_2 (by decide : 6 ≤ 56)) (kC_B n_1 n_2) rfl in_B 1 (by decide) w150 rfl rfl rfl ?_
    refine X_getN Γ d_B_adopt_33 (Nat.lt_of_lt_of_le (Nat.lt_of_lt_of_le (Nat.add_lt_add_right n_2 4) (by decide : 6 + 4 ≤ 10)) (by decide : 10 ≤ 56)) (kC_L (Nat.le_trans (by decide : 6 ≤ 2 + 4) (Nat.add_le_add_right n_1 4)) (Nat.lt_of_lt_of_le (Nat.add_lt_add_right n_2 4) (by decide : 6 + 4 ≤ 10))) rfl in_L 2 (by decide) w136 rfl rfl rfl ?_
    refine X_put (ty := .int) Γ d_B_adopt_36 (Nat.lt_of_lt_of_le n_2 (by decide : 6 ≤ 56)) (kC_B n_1 n_2) rfl in_B 10 (by decide) w167 rfl ty_B ty_B_ok nm_B rfl (by decide +kernel) rfl rfl (Nat.le_of_ble_eq_true rfl) (kp_B_10 n_1 n_2) rfl ?_
    refine X_aload_n Γ d_B_adopt_39 rfl 0 rfl rfl ?_
    refine X_aload_n Γ d_B_adopt_40 rfl 1 rfl rfl ?_
    refine X_getN Γ d_B_adopt_41 (by decide) kC_T rfl in_T 2 (by decide) w41 rfl rfl rfl ?_
    refine X_put (ty := .int) Γ d_B_adopt_44 (Nat.lt_of_lt_of_le n_2 (by decide : 6 ≤ 56)) (kC_B n_1 n_2) rfl in_B 11 (by decide) w168 rfl ty_B ty_B_ok nm_B rfl (by decide +kernel) rfl rfl (Nat.le_of_ble_eq_true rfl) (kp_B_11 n_1 n_2) rfl ?_
    refine X_aload_n Γ d_B_adopt_47 rfl 0 rfl rfl ?_
    refine X_get Γ d_B_adopt_48 (Nat.lt_of_lt_of_le n_2 (by decide : 6 ≤ 56)) (kC_B n_1 n_2) rfl in_B 2 (by decide) w152 rfl rfl rfl ?_
    refine X_iconst (v := (-1)) Γ d_B_adopt_51 (by decide) rfl ?_
    refine X_callSv (rest := []) Γ d_B_adopt_52 (m_Arr_fill l D _ _ _ _ hJ _ _ (n + 16) 4 cI (Nat.lt_of_lt_of_le (Nat.lt_of_lt_of_le (Nat.add_lt_add_right n_2 16) (by decide : 6 + 16 ≤ 26)) (by decide : 26 ≤ 56)) (fun _ => (kC_A4 (Nat.le_trans (by decide : 18 ≤ 2 + 16) (Nat.add_le_add_right n_1 16)) (Nat.lt_of_lt_of_le (Nat.add_lt_add_right n_2 16) (by decide : 6 + 16 ≤ 26)))) rfl (-1) (by decide)) w145 w146 w8 w147 e_Arr_fill ⟨by decide, by decide⟩ ⟨rfl, rfl⟩ rfl rfl (Nat.le_of_ble_eq_true rfl) rfl ?_
    refine X_aload_n Γ d_B_adopt_55 rfl 0 rfl rfl ?_
    refine X_get Γ d_B_adopt_56 (Nat.lt_of_lt_of_le n_2 (by decide : 6 ≤ 56)) (kC_B n_1 n_2) rfl in_B 3 (by decide) w153 rfl rfl rfl ?_
    refine X_iload_n Γ d_B_adopt_59 rfl 2 rfl rfl ?_
    refine X_callSv (rest := []) Γ d_B_adopt_60 (m_Arr_fill l D _ _ _ _ hJ _ _ (n + 20) 4 cI (Nat.lt_of_lt_of_le (Nat.lt_of_lt_of_le (Nat.add_lt_add_right n_2 20) (by decide : 6 + 20 ≤ 26)) (by decide : 26 ≤ 56)) (fun _ => (kC_A4 (Nat.le_trans (by decide : 18 ≤ 2 + 20) (Nat.add_le_add_right n_1 20)) (Nat.lt_of_lt_of_le (Nat.add_lt_add_right n_2 20) (by decide : 6 + 20 ≤ 26)))) rfl x2 (by decide)) w145 w146 w8 w147 e_Arr_fill ⟨by decide, by decide⟩ ⟨rfl, rfl⟩ rfl rfl (Nat.le_of_ble_eq_true rfl) rfl ?_
    exact X_vret Γ d_B_adopt_63 (gv_eq E)
def f_B_raiseHw_10 (n : Nat) (G : Nat → Nat → Int32) : Nat → Int32 → Int32 → (Nat → Nat → Int32)
  | 0, v1_10, v2_10 => G
  | k10 + 1, v1_10, v2_10 => (if 4 ≤ v2_10 then (g2 G n 7 (if (G n 7) < v1_10 then v1_10 else (G n 7))) else (jn (fun (v1_45 : Int32) => (f_B_raiseHw_10 n G k10 v1_45 (v2_10 + 1))) (fun (j45 : Int32 → (Nat → Nat → Int32)) => (if v2_10 = (G n 0) then (j45 v1_10) else (if ((f_I_contains (G n 11) v2_10)) = 0 then (j45 v1_10) else (j45 (if (G (n + 16) v2_10.toNatClampNeg) < v1_10 then (G (n + 16) v2_10.toNatClampNeg) else v1_10)))))))
def f_B_raiseHw (n : Nat) (G : Nat → Nat → Int32) : (Nat → Nat → Int32) := (f_B_raiseHw_10 n G 5 (G (n + 4) 2) 0)
theorem e_B_raiseHw : y_B_raiseHw.cls ≠ "java/lang/invoke/MethodHandle" ∧ y_B_raiseHw.cls ≠ "java/lang/invoke/VarHandle" ∧ (parseMethodDescriptor y_B_raiseHw.desc).map (fun d => d.parameters.length) = some 0 := by decide +kernel
set_option maxHeartbeats 4000000 in
set_option maxRecDepth 100000 in
theorem m_B_raiseHw (l : Launch) (D : va_G) (cI cZ cB cM : ClassId) (a : Nat → Nat) (hJ : xJ 56 a) (P : Nat → Nat) (G : Nat → Nat → Int32) (n : Nat) (n_1 : 2 ≤ n) (n_2 : n < 6) : Met l y_B_raiseHw (Cond.code y_B_raiseHw prog_2_method_7_code 3 (Option.none : Option FieldType) :: wsBig) { frames := 1, cells := 0, slots := 0, locals := 21 } (xP D xcl (xty cI cZ cB cM) 56 a (kg (kC cI cB cM a P) G) [.ref (a n)]) (xQv D xcl 56 a (kg (kC cI cB cM a P) (f_B_raiseHw n G))) 0 0 (xA 56 a) := by
  refine X_met (by decide) rfl (Nat.le_of_ble_eq_true rfl) hJ (fun Y s m args Γ => ?_)
  show X Y s m D xcl 56 a 3 (kg (kC cI cB cM a P) G) 0 [(0, .ref (a n))] []
  have E := f_B_raiseHw.eq_1 n G
  refine X_aload_n Γ d_B_raiseHw_0 rfl 0 rfl rfl ?_
  refine X_get Γ d_B_raiseHw_1 (Nat.lt_of_lt_of_le n_2 (by decide : 6 ≤ 56)) (kC_B n_1 n_2) rfl in_B 1 (by decide) w150 rfl rfl rfl ?_
  refine X_getN Γ d_B_raiseHw_4 (Nat.lt_of_lt_of_le (Nat.lt_of_lt_of_le (Nat.add_lt_add_right n_2 4) (by decide : 6 + 4 ≤ 10)) (by decide : 10 ≤ 56)) (kC_L (Nat.le_trans (by decide : 6 ≤ 2 + 4) (Nat.add_le_add_right n_1 4)) (Nat.lt_of_lt_of_le (Nat.add_lt_add_right n_2 4) (by decide : 6 + 4 ≤ 10))) rfl in_L 2 (by decide) w136 rfl rfl rfl ?_
  refine X_istore_n Γ d_B_raiseHw_7 rfl (by decide) rfl rfl ?_
  refine X_iconst (v := 0) Γ d_B_raiseHw_8 (by decide) rfl ?_
  refine X_istore_n Γ d_B_raiseHw_9 rfl (by decide) rfl rfl ?_
  have J10 : ∀ (k10 : Nat) (v1_10 : Int32) (v2_10 : Int32), (0 < k10 ∧ k10 ≤ 5 ∧ v2_10 = nI (5 - k10)) → f_B_raiseHw n G = f_B_raiseHw_10 n G k10 v1_10 v2_10 → X Y s m D xcl 56 a 3 (kg (kC cI cB cM a P) G) 10 [(0, .ref (a n)), (1, .int v1_10), (2, .int v2_10)] [] := by
    intro k10
    induction k10 with
    | zero => exact fun v1_10 v2_10 hI10 _ => absurd hI10 (fun h => Nat.lt_irrefl 0 h.1)
    | succ k10 ih10 =>
      intro v1_10 v2_10 hI10 E
      rw [f_B_raiseHw_10] at E
      refine X_iload_n Γ d_B_raiseHw_10 rfl 2 rfl rfl ?_
      refine X_iconst (v := 4) Γ d_B_raiseHw_11 (by decide) rfl ?_
      refine X_icmp_ge (tgt := 51) Γ d_B_raiseHw_12 (by decide) rfl (fun h12 => ?_) (fun h12 => ?_)
      · replace E := E.trans (if_pos h12)
        refine X_aload_n Γ d_B_raiseHw_51 rfl 0 rfl rfl ?_
        refine X_aload_n Γ d_B_raiseHw_52 rfl 0 rfl rfl ?_
        refine X_get Γ d_B_raiseHw_53 (Nat.lt_of_lt_of_le n_2 (by decide : 6 ≤ 56)) (kC_B n_1 n_2) rfl in_B 7 (by decide) w161 rfl rfl rfl ?_
        refine X_iload_n Γ d_B_raiseHw_56 rfl 1 rfl rfl ?_
        refine X_mmax Γ d_B_raiseHw_57 w259 w26 w2 w27 (by decide) (Nat.le_of_ble_eq_true rfl) rfl ?_
        refine X_put (ty := .int) Γ d_B_raiseHw_60 (Nat.lt_of_lt_of_le n_2 (by decide : 6 ≤ 56)) (kC_B n_1 n_2) rfl in_B 7 (by decide) w161 rfl ty_B ty_B_ok nm_B rfl (by decide +kernel) rfl rfl (Nat.le_of_ble_eq_true rfl) (kp_B_7 n_1 n_2) rfl ?_
        exact X_vret Γ d_B_raiseHw_63 (gv_eq E)
      · replace E := E.trans (if_neg h12)
        refine X_iload_n Γ d_B_raiseHw_15 rfl 2 rfl rfl ?_
        refine X_aload_n Γ d_B_raiseHw_16 rfl 0 rfl rfl ?_
        refine X_get Γ d_B_raiseHw_17 (Nat.lt_of_lt_of_le n_2 (by decide : 6 ≤ 56)) (kC_B n_1 n_2) rfl in_B 0 (by decide) w148 rfl rfl rfl ?_
        refine jn_open E (fun j45 ej45 E => ?_)
        have J45 : ∀ (v1_45 : Int32), (True) → f_B_raiseHw n G = j45 v1_45 → X Y s m D xcl 56 a 3 (kg (kC cI cB cM a P) G) 45 [(0, .ref (a n)), (1, .int v1_45), (2, .int v2_10)] [] := by
          intro v1_45 hI45 E
          rw [ej45] at E
          refine X_iinc (v := (v2_10 + 1)) Γ d_B_raiseHw_45 2 rfl rfl (by decide) rfl rfl ?_
          refine X_goto (pc' := 10) Γ d_B_raiseHw_48 (by decide) ?_
          refine X_loc [1, 2, 0] rfl ?_
          exact ih10 v1_45 (v2_10 + 1) (lc_step (by decide) (by decide) hI10.1 hI10.2.1 hI10.2.2 h12) E
        refine X_icmp_eq (tgt := 45) Γ d_B_raiseHw_20 (by decide) rfl (fun h20 => ?_) (fun h20 => ?_)
        · replace E := E.trans (if_pos h20)
          refine X_loc [0, 1, 2] rfl ?_
          exact J45 v1_10 trivial E
        · replace E := E.trans (if_neg h20)
          refine X_aload_n Γ d_B_raiseHw_23 rfl 0 rfl rfl ?_
          refine X_get Γ d_B_raiseHw_24 (Nat.lt_of_lt_of_le n_2 (by decide : 6 ≤ 56)) (kC_B n_1 n_2) rfl in_B 11 (by decide) w168 rfl rfl rfl ?_
          refine X_iload_n Γ d_B_raiseHw_27 rfl 2 rfl rfl ?_
          refine X_callSNi (rest := []) Γ d_B_raiseHw_28 (m_I_contains l D _ _ _ _ hJ _ _ (G n 11) v2_10) w255 w256 w1 w257 e_I_contains ⟨by decide, by decide⟩ ⟨rfl, rfl⟩ rfl rfl (Nat.le_of_ble_eq_true rfl) rfl ?_
          refine X_if_eq (tgt := 45) Γ d_B_raiseHw_31 (by decide) rfl (fun h31 => ?_) (fun h31 => ?_)
          · replace E := E.trans (if_pos h31)
            refine X_loc [0, 1, 2] rfl ?_
            exact J45 v1_10 trivial E
          · replace E := E.trans (if_neg h31)
            refine X_iload_n Γ d_B_raiseHw_34 rfl 1 rfl rfl ?_
            refine X_aload_n Γ d_B_raiseHw_35 rfl 0 rfl rfl ?_
            refine X_get Γ d_B_raiseHw_36 (Nat.lt_of_lt_of_le n_2 (by decide : 6 ≤ 56)) (kC_B n_1 n_2) rfl in_B 2 (by decide) w152 rfl rfl rfl ?_
            refine X_iload_n Γ d_B_raiseHw_39 rfl 2 rfl rfl ?_
            refine X_iald (v := (G (n + 16) v2_10.toNatClampNeg)) Γ d_B_raiseHw_40 (Nat.lt_of_lt_of_le (Nat.lt_of_lt_of_le (Nat.add_lt_add_right n_2 16) (by decide : 6 + 16 ≤ 26)) (by decide : 26 ≤ 56)) (kC_A4 (Nat.le_trans (by decide : 18 ≤ 2 + 16) (Nat.add_le_add_right n_1 16)) (Nat.lt_of_lt_of_le (Nat.add_lt_add_right n_2 16) (by decide : 6 + 16 ≤ 26))) 0 rfl (lc_in (by decide) (by decide) hI10.2.1 hI10.2.2 h12) rfl rfl ?_
            refine X_mmin Γ d_B_raiseHw_41 w258 w23 w2 w24 (by decide) (Nat.le_of_ble_eq_true rfl) rfl ?_
            refine X_istore_n Γ d_B_raiseHw_44 rfl (by decide) rfl rfl ?_
            refine X_loc [1, 0, 2] rfl ?_
            exact J45 (if (G (n + 16) v2_10.toNatClampNeg) < v1_10 then (G (n + 16) v2_10.toNatClampNeg) else v1_10) trivial E
  refine X_loc [2, 1, 0] rfl ?_
  exact J10 5 (G (n + 4) 2) 0 (⟨by decide, by decide, by decide⟩) E
def f_B_noteFetched (n : Nat) (x1 : Int32) (x2 : Int32) (x3 : Int32) (G : Nat → Nat → Int32) : (Nat → Nat → Int32) := (if x2 = ((g2 G (n + 16) x1.toNatClampNeg (if (G (n + 16) x1.toNatClampNeg) < x2 then x2 else (G (n + 16) x1.toNatClampNeg))) (n + 4) 2) then ((f_B_raiseHw n (g2 (g2 G (n + 16) x1.toNatClampNeg (if (G (n + 16) x1.toNatClampNeg) < x2 then x2 else (G (n + 16) x1.toNatClampNeg))) (n + 20) x1.toNatClampNeg x3))) else ((f_B_raiseHw n (g2 G (n + 16) x1.toNatClampNeg (if (G (n + 16) x1.toNatClampNeg) < x2 then x2 else (G (n + 16) x1.toNatClampNeg))))))
theorem e_B_noteFetched : y_B_noteFetched.cls ≠ "java/lang/invoke/MethodHandle" ∧ y_B_noteFetched.cls ≠ "java/lang/invoke/VarHandle" ∧ (parseMethodDescriptor y_B_noteFetched.desc).map (fun d => d.parameters.length) = some 3 := by decide +kernel
set_option maxHeartbeats 4000000 in
set_option maxRecDepth 100000 in
theorem m_B_noteFetched (l : Launch) (D : va_G) (cI cZ cB cM : ClassId) (a : Nat → Nat) (hJ : xJ 56 a) (P : Nat → Nat) (G : Nat → Nat → Int32) (n : Nat) (n_1 : 2 ≤ n) (n_2 : n < 6) (x1 : Int32) (x2 : Int32) (x3 : Int32) (hx : vp_in x1 4) : Met l y_B_noteFetched (Cond.code y_B_noteFetched prog_2_method_6_code 4 (Option.none : Option FieldType) :: wsBig) { frames := 2, cells := 0, slots := 0, locals := 43 } (xP D xcl (xty cI cZ cB cM) 56 a (kg (kC cI cB cM a P) G) [.ref (a n), .int x1, .int x2, .int x3]) (xQv D xcl 56 a (kg (kC cI cB cM a P) (f_B_noteFetched n x1 x2 x3 G))) 0 0 (xA 56 a) := by
  refine X_met (by decide) rfl (Nat.le_of_ble_eq_true rfl) hJ (fun Y s m args Γ => ?_)
  show X Y s m D xcl 56 a 4 (kg (kC cI cB cM a P) G) 0 [(0, .ref (a n)), (1, .int x1), (2, .int x2), (3, .int x3)] []
  have E := f_B_noteFetched.eq_1 n x1 x2 x3 G
  refine X_aload_n Γ d_B_noteFetched_0 rfl 0 rfl rfl ?_
  refine X_get Γ d_B_noteFetched_1 (Nat.lt_of_lt_of_le n_2 (by decide : 6 ≤ 56)) (kC_B n_1 n_2) rfl in_B 2 (by decide) w152 rfl rfl rfl ?_
  refine X_iload_n Γ d_B_noteFetched_4 rfl 1 rfl rfl ?_
  refine X_aload_n Γ d_B_noteFetched_5 rfl 0 rfl rfl ?_
  refine X_get Γ d_B_noteFetched_6 (Nat.lt_of_lt_of_le n_2 (by decide : 6 ≤ 56)) (kC_B n_1 n_2) rfl in_B 2 (by decide) w152 rfl rfl rfl ?_
  refine X_iload_n Γ d_B_noteFetched_9 rfl 1 rfl rfl ?_
  refine X_iald (v := (G (n + 16) x1.toNatClampNeg)) Γ d_B_noteFetched_10 (Nat.lt_of_lt_of_le (Nat.lt_of_lt_of_le (Nat.add_lt_add_right n_2 16) (by decide : 6 + 16 ≤ 26)) (by decide : 26 ≤ 56)) (kC_A4 (Nat.le_trans (by decide : 18 ≤ 2 + 16) (Nat.add_le_add_right n_1 16)) (Nat.lt_of_lt_of_le (Nat.add_lt_add_right n_2 16) (by decide : 6 + 16 ≤ 26))) 0 rfl hx rfl rfl ?_
  refine X_iload_n Γ d_B_noteFetched_11 rfl 2 rfl rfl ?_
  refine X_mmax Γ d_B_noteFetched_12 w259 w26 w2 w27 (by decide) (Nat.le_of_ble_eq_true rfl) rfl ?_
  refine X_iast (kx := x1.toNatClampNeg) Γ d_B_noteFetched_15 (Nat.lt_of_lt_of_le (Nat.lt_of_lt_of_le (Nat.add_lt_add_right n_2 16) (by decide : 6 + 16 ≤ 26)) (by decide : 26 ≤ 56)) (kC_A4 (Nat.le_trans (by decide : 18 ≤ 2 + 16) (Nat.add_le_add_right n_1 16)) (Nat.lt_of_lt_of_le (Nat.add_lt_add_right n_2 16) (by decide : 6 + 16 ≤ 26))) 0 rfl hx (fun _ => (kC_A4 (Nat.le_trans (by decide : 18 ≤ 2 + 16) (Nat.add_le_add_right n_1 16)) (Nat.lt_of_lt_of_le (Nat.add_lt_add_right n_2 16) (by decide : 6 + 16 ≤ 26)))) rfl rfl ?_
  refine X_iload_n Γ d_B_noteFetched_16 rfl 2 rfl rfl ?_
  refine X_aload_n Γ d_B_noteFetched_17 rfl 0 rfl rfl ?_
  refine X_get Γ d_B_noteFetched_18 (Nat.lt_of_lt_of_le n_2 (by decide : 6 ≤ 56)) (kC_B n_1 n_2) rfl in_B 1 (by decide) w150 rfl rfl rfl ?_
  refine X_getN Γ d_B_noteFetched_21 (Nat.lt_of_lt_of_le (Nat.lt_of_lt_of_le (Nat.add_lt_add_right n_2 4) (by decide : 6 + 4 ≤ 10)) (by decide : 10 ≤ 56)) (kC_L (Nat.le_trans (by decide : 6 ≤ 2 + 4) (Nat.add_le_add_right n_1 4)) (Nat.lt_of_lt_of_le (Nat.add_lt_add_right n_2 4) (by decide : 6 + 4 ≤ 10))) rfl in_L 2 (by decide) w136 rfl rfl rfl ?_
  refine X_icmp_ne (tgt := 34) Γ d_B_noteFetched_24 (by decide) rfl (fun h24 => ?_) (fun h24 => ?_)
  · replace E := E.trans (if_neg h24)
    refine X_aload_n Γ d_B_noteFetched_34 rfl 0 rfl rfl ?_
    refine X_callVv (rest := []) Γ d_B_noteFetched_35 (m_B_raiseHw l D cI cZ cB cM a hJ P (g2 G (n + 16) x1.toNatClampNeg (if (G (n + 16) x1.toNatClampNeg) < x2 then x2 else (G (n + 16) x1.toNatClampNeg))) n n_1 n_2) (Nat.lt_of_lt_of_le n_2 (by decide : 6 ≤ 56)) (kC_B n_1 n_2) rfl rfl w336 w253 s_B_raiseHw w6 w254 e_B_raiseHw ⟨by decide, by decide⟩ ⟨rfl, rfl⟩ rfl rfl (Nat.le_of_ble_eq_true rfl) rfl ?_
    exact X_vret Γ d_B_noteFetched_38 (gv_eq E)
  · replace E := E.trans (if_pos h24)
    refine X_aload_n Γ d_B_noteFetched_27 rfl 0 rfl rfl ?_
    refine X_get Γ d_B_noteFetched_28 (Nat.lt_of_lt_of_le n_2 (by decide : 6 ≤ 56)) (kC_B n_1 n_2) rfl in_B 3 (by decide) w153 rfl rfl rfl ?_
    refine X_iload_n Γ d_B_noteFetched_31 rfl 1 rfl rfl ?_
    refine X_iload_n Γ d_B_noteFetched_32 rfl 3 rfl rfl ?_
    refine X_iast (kx := x1.toNatClampNeg) Γ d_B_noteFetched_33 (Nat.lt_of_lt_of_le (Nat.lt_of_lt_of_le (Nat.add_lt_add_right n_2 20) (by decide : 6 + 20 ≤ 26)) (by decide : 26 ≤ 56)) (kC_A4 (Nat.le_trans (by decide : 18 ≤ 2 + 20) (Nat.add_le_add_right n_1 20)) (Nat.lt_of_lt_of_le (Nat.add_lt_add_right n_2 20) (by decide : 6 + 20 ≤ 26))) 0 rfl hx (fun _ => (kC_A4 (Nat.le_trans (by decide : 18 ≤ 2 + 20) (Nat.add_le_add_right n_1 20)) (Nat.lt_of_lt_of_le (Nat.add_lt_add_right n_2 20) (by decide : 6 + 20 ≤ 26)))) rfl rfl ?_
    refine X_aload_n Γ d_B_noteFetched_34 rfl 0 rfl rfl ?_
    refine X_callVv (rest := []) Γ d_B_noteFetched_35 (m_B_raiseHw l D cI cZ cB cM a hJ P (g2 (g2 G (n + 16) x1.toNatClampNeg (if (G (n + 16) x1.toNatClampNeg) < x2 then x2 else (G (n + 16) x1.toNatClampNeg))) (n + 20) x1.toNatClampNeg x3) n n_1 n_2) (Nat.lt_of_lt_of_le n_2 (by decide : 6 ≤ 56)) (kC_B n_1 n_2) rfl rfl w336 w253 s_B_raiseHw w6 w254 e_B_raiseHw ⟨by decide, by decide⟩ ⟨rfl, rfl⟩ rfl rfl (Nat.le_of_ble_eq_true rfl) rfl ?_
    exact X_vret Γ d_B_noteFetched_38 (gv_eq E)
def f_B_hasFetchedEnough (n : Nat) (x1 : Int32) (G : Nat → Nat → Int32) : Int32 := (if (G (n + 16) x1.toNatClampNeg) < (G n 7) then 0 else (if (G (n + 16) x1.toNatClampNeg) < (G n 10) then 0 else 1))
theorem e_B_hasFetchedEnough : y_B_hasFetchedEnough.cls ≠ "java/lang/invoke/MethodHandle" ∧ y_B_hasFetchedEnough.cls ≠ "java/lang/invoke/VarHandle" ∧ (parseMethodDescriptor y_B_hasFetchedEnough.desc).map (fun d => d.parameters.length) = some 1 := by decide +kernel
set_option maxHeartbeats 4000000 in
set_option maxRecDepth 100000 in
theorem m_B_hasFetchedEnough (l : Launch) (D : va_G) (cI cZ cB cM : ClassId) (a : Nat → Nat) (hJ : xJ 56 a) (P : Nat → Nat) (G : Nat → Nat → Int32) (n : Nat) (n_1 : 2 ≤ n) (n_2 : n < 6) (x1 : Int32) (hx : vp_in x1 4) : Met l y_B_hasFetchedEnough (Cond.code y_B_hasFetchedEnough prog_2_method_9_code 2 (Option.some FieldType.boolean) :: wsBig) { frames := 0, cells := 0, slots := 0, locals := 0 } (xP D xcl (xty cI cZ cB cM) 56 a (kg (kC cI cB cM a P) G) [.ref (a n), .int x1]) (xQi D xcl 56 a (f_B_hasFetchedEnough n x1 G) (kg (kC cI cB cM a P) G)) 0 0 (xA 56 a) := by
  refine X_met (by decide) rfl (Nat.le_of_ble_eq_true rfl) hJ (fun Y s m args Γ => ?_)
  show X Y s m D xcl 56 a 2 (kg (kC cI cB cM a P) G) 0 [(0, .ref (a n)), (1, .int x1)] []
  have E := f_B_hasFetchedEnough.eq_1 n x1 G
  refine X_aload_n Γ d_B_hasFetchedEnough_0 rfl 0 rfl rfl ?_
  refine X_get Γ d_B_hasFetchedEnough_1 (Nat.lt_of_lt_of_le n_2 (by decide : 6 ≤ 56)) (kC_B n_1 n_2) rfl in_B 2 (by decide) w152 rfl rfl rfl ?_
  refine X_iload_n Γ d_B_hasFetchedEnough_4 rfl 1 rfl rfl ?_
  refine X_iald (v := (G (n + 16) x1.toNatClampNeg)) Γ d_B_hasFetchedEnough_5 (Nat.lt_of_lt_of_le (Nat.lt_of_lt_of_le (Nat.add_lt_add_right n_2 16) (by decide : 6 + 16 ≤ 26)) (by decide : 26 ≤ 56)) (kC_A4 (Nat.le_trans (by decide : 18 ≤ 2 + 16) (Nat.add_le_add_right n_1 16)) (Nat.lt_of_lt_of_le (Nat.add_lt_add_right n_2 16) (by decide : 6 + 16 ≤ 26))) 0 rfl hx rfl rfl ?_
  refine X_aload_n Γ d_B_hasFetchedEnough_6 rfl 0 rfl rfl ?_
  refine X_get Γ d_B_hasFetchedEnough_7 (Nat.lt_of_lt_of_le n_2 (by decide : 6 ≤ 56)) (kC_B n_1 n_2) rfl in_B 7 (by decide) w161 rfl rfl rfl ?_
  refine X_icmp_lt (tgt := 30) Γ d_B_hasFetchedEnough_10 (by decide) rfl (fun h10 => ?_) (fun h10 => ?_)
  · replace E := E.trans (if_pos h10)
    refine X_iconst (v := 0) Γ d_B_hasFetchedEnough_30 (by decide) rfl ?_
    exact X_iretz Γ d_B_hasFetchedEnough_31 rfl E.symm rfl
  · replace E := E.trans (if_neg h10)
    refine X_aload_n Γ d_B_hasFetchedEnough_13 rfl 0 rfl rfl ?_
    refine X_get Γ d_B_hasFetchedEnough_14 (Nat.lt_of_lt_of_le n_2 (by decide : 6 ≤ 56)) (kC_B n_1 n_2) rfl in_B 2 (by decide) w152 rfl rfl rfl ?_
    refine X_iload_n Γ d_B_hasFetchedEnough_17 rfl 1 rfl rfl ?_
    refine X_iald (v := (G (n + 16) x1.toNatClampNeg)) Γ d_B_hasFetchedEnough_18 (Nat.lt_of_lt_of_le (Nat.lt_of_lt_of_le (Nat.add_lt_add_right n_2 16) (by decide : 6 + 16 ≤ 26)) (by decide : 26 ≤ 56)) (kC_A4 (Nat.le_trans (by decide : 18 ≤ 2 + 16) (Nat.add_le_add_right n_1 16)) (Nat.lt_of_lt_of_le (Nat.add_lt_add_right n_2 16) (by decide : 6 + 16 ≤ 26))) 0 rfl hx rfl rfl ?_
    refine X_aload_n Γ d_B_hasFetchedEnough_19 rfl 0 rfl rfl ?_
    refine X_get Γ d_B_hasFetchedEnough_20 (Nat.lt_of_lt_of_le n_2 (by decide : 6 ≤ 56)) (kC_B n_1 n_2) rfl in_B 10 (by decide) w167 rfl rfl rfl ?_
    refine X_icmp_lt (tgt := 30) Γ d_B_hasFetchedEnough_23 (by decide) rfl (fun h23 => ?_) (fun h23 => ?_)
    · replace E := E.trans (if_pos h23)
      refine X_iconst (v := 0) Γ d_B_hasFetchedEnough_30 (by decide) rfl ?_
      exact X_iretz Γ d_B_hasFetchedEnough_31 rfl E.symm rfl
    · replace E := E.trans (if_neg h23)
      refine X_iconst (v := 1) Γ d_B_hasFetchedEnough_26 (by decide) rfl ?_
      refine X_goto (pc' := 31) Γ d_B_hasFetchedEnough_27 (by decide) ?_
      exact X_iretz Γ d_B_hasFetchedEnough_31 rfl E.symm rfl
def f_B_replicasInSync_10 (n : Nat) (x1 : Int32) (x2 : Int32) (G : Nat → Nat → Int32) : Nat → Int32 → Int32 → Int32
  | 0, v3_10, v4_10 => 0
  | k10 + 1, v3_10, v4_10 => (if 4 ≤ v4_10 then v3_10 else (jn (fun (t0_34 : Int32) => (jn (fun (v3_69 : Int32) => (f_B_replicasInSync_10 n x1 x2 G k10 v3_69 (v4_10 + 1))) (fun (j69 : Int32 → Int32) => (if t0_34 = 0 then (if ((f_I_contains (G n 11) v4_10)) = 0 then (if ((f_B_hasFetchedEnough n v4_10 G)) = 0 then (j69 v3_10) else (j69 (v3_10 ||| (1 <<< (v4_10 &&& 31))))) else (j69 (v3_10 ||| (1 <<< (v4_10 &&& 31))))) else (j69 v3_10))))) (fun (j34 : Int32 → Int32) => (if (x1 - (G (n + 20) v4_10.toNatClampNeg)) ≤ x2 then (j34 0) else (j34 1)))))
def f_B_replicasInSync (n : Nat) (x1 : Int32) (x2 : Int32) (G : Nat → Nat → Int32) : Int32 := (f_B_replicasInSync_10 n x1 x2 G 5 (1 <<< ((G n 0) &&& 31)) 0)
theorem e_B_replicasInSync : y_B_replicasInSync.cls ≠ "java/lang/invoke/MethodHandle" ∧ y_B_replicasInSync.cls ≠ "java/lang/invoke/VarHandle" ∧ (parseMethodDescriptor y_B_replicasInSync.desc).map (fun d => d.parameters.length) = some 2 := by decide +kernel
set_option maxHeartbeats 4000000 in
set_option maxRecDepth 100000 in
theorem m_B_replicasInSync (l : Launch) (D : va_G) (cI cZ cB cM : ClassId) (a : Nat → Nat) (hJ : xJ 56 a) (P : Nat → Nat) (G : Nat → Nat → Int32) (n : Nat) (n_1 : 2 ≤ n) (n_2 : n < 6) (x1 : Int32) (x2 : Int32) : Met l y_B_replicasInSync (Cond.code y_B_replicasInSync prog_2_method_8_code 6 (Option.some FieldType.int) :: wsBig) { frames := 1, cells := 0, slots := 0, locals := 21 } (xP D xcl (xty cI cZ cB cM) 56 a (kg (kC cI cB cM a P) G) [.ref (a n), .int x1, .int x2]) (xQi D xcl 56 a (f_B_replicasInSync n x1 x2 G) (kg (kC cI cB cM a P) G)) 0 0 (xA 56 a) := by
  refine X_met (by decide) rfl (Nat.le_of_ble_eq_true rfl) hJ (fun Y s m args Γ => ?_)
  show X Y s m D xcl 56 a 6 (kg (kC cI cB cM a P) G) 0 [(0, .ref (a n)), (1, .int x1), (2, .int x2)] []
  have E := f_B_replicasInSync.eq_1 n x1 x2 G
  refine X_iconst (v := 1) Γ d_B_replicasInSync_0 (by decide) rfl ?_
  refine X_aload_n Γ d_B_replicasInSync_1 rfl 0 rfl rfl ?_
  refine X_get Γ d_B_replicasInSync_2 (Nat.lt_of_lt_of_le n_2 (by decide : 6 ≤ 56)) (kC_B n_1 n_2) rfl in_B 0 (by decide) w148 rfl rfl rfl ?_
  refine X_ishl Γ d_B_replicasInSync_5 rfl ?_
  refine X_istore_n Γ d_B_replicasInSync_6 rfl (by decide) rfl rfl ?_
  refine X_iconst (v := 0) Γ d_B_replicasInSync_7 (by decide) rfl ?_
  refine X_istore Γ d_B_replicasInSync_8 (by decide) rfl rfl ?_
  have J10 : ∀ (k10 : Nat) (v3_10 : Int32) (v4_10 : Int32), (0 < k10 ∧ k10 ≤ 5 ∧ v4_10 = nI (5 - k10)) → f_B_replicasInSync n x1 x2 G = f_B_replicasInSync_10 n x1 x2 G k10 v3_10 v4_10 → X Y s m D xcl 56 a 6 (kg (kC cI cB cM a P) G) 10 [(0, .ref (a n)), (1, .int x1), (2, .int x2), (3, .int v3_10), (4, .int v4_10)] [] := by
    intro k10
    induction k10 with
    | zero => exact fun v3_10 v4_10 hI10 _ => absurd hI10 (fun h => Nat.lt_irrefl 0 h.1)
    | succ k10 ih10 =>
      intro v3_10 v4_10 hI10 E
      rw [f_B_replicasInSync_10] at E
      refine X_iload Γ d_B_replicasInSync_10 4 rfl rfl ?_
      refine X_iconst (v := 4) Γ d_B_replicasInSync_12 (by decide) rfl ?_
      refine X_icmp_ge (tgt := 75) Γ d_B_replicasInSync_13 (by decide) rfl (fun h13 => ?_) (fun h13 => ?_)
      · replace E := E.trans (if_pos h13)
        refine X_iload_n Γ d_B_replicasInSync_75 rfl 3 rfl rfl ?_
        exact X_ireti Γ d_B_replicasInSync_76 E.symm rfl
      · replace E := E.trans (if_neg h13)
        refine X_iload_n Γ d_B_replicasInSync_16 rfl 1 rfl rfl ?_
        refine X_aload_n Γ d_B_replicasInSync_17 rfl 0 rfl rfl ?_
        refine X_get Γ d_B_replicasInSync_18 (Nat.lt_of_lt_of_le n_2 (by decide : 6 ≤ 56)) (kC_B n_1 n_2) rfl in_B 3 (by decide) w153 rfl rfl rfl ?_
        refine X_iload Γ d_B_replicasInSync_21 4 rfl rfl ?_
        refine X_iald (v := (G (n + 20) v4_10.toNatClampNeg)) Γ d_B_replicasInSync_23 (Nat.lt_of_lt_of_le (Nat.lt_of_lt_of_le (Nat.add_lt_add_right n_2 20) (by decide : 6 + 20 ≤ 26)) (by decide : 26 ≤ 56)) (kC_A4 (Nat.le_trans (by decide : 18 ≤ 2 + 20) (Nat.add_le_add_right n_1 20)) (Nat.lt_of_lt_of_le (Nat.add_lt_add_right n_2 20) (by decide : 6 + 20 ≤ 26))) 0 rfl (lc_in (by decide) (by decide) hI10.2.1 hI10.2.2 h13) rfl rfl ?_
        refine X_isub Γ d_B_replicasInSync_24 rfl ?_
        refine X_iload_n Γ d_B_replicasInSync_25 rfl 2 rfl rfl ?_
        refine jn_open E (fun j34 ej34 E => ?_)
        have J34 : ∀ (t0_34 : Int32), (True) → f_B_replicasInSync n x1 x2 G = j34 t0_34 → X Y s m D xcl 56 a 6 (kg (kC cI cB cM a P) G) 34 [(0, .ref (a n)), (1, .int x1), (2, .int x2), (3, .int v3_10), (4, .int v4_10)] [.int t0_34] := by
          intro t0_34 hI34 E
          rw [ej34] at E
          refine X_istore Γ d_B_replicasInSync_34 (by decide) rfl rfl ?_
          refine X_iload Γ d_B_replicasInSync_36 0 rfl rfl ?_
          refine jn_open E (fun j69 ej69 E => ?_)
          have J69 : ∀ (v3_69 : Int32), (True) → f_B_replicasInSync n x1 x2 G = j69 v3_69 → X Y s m D xcl 56 a 6 (kg (kC cI cB cM a P) G) 69 [(0, .ref (a n)), (1, .int x1), (2, .int x2), (3, .int v3_69), (4, .int v4_10), (5, .int t0_34)] [] := by
            intro v3_69 hI69 E
            rw [ej69] at E
            refine X_iinc (v := (v4_10 + 1)) Γ d_B_replicasInSync_69 4 rfl rfl (by decide) rfl rfl ?_
            refine X_goto (pc' := 10) Γ d_B_replicasInSync_72 (by decide) ?_
            refine X_loc [1, 2, 3, 4, 0] rfl ?_
            exact ih10 v3_69 (v4_10 + 1) (lc_step (by decide) (by decide) hI10.1 hI10.2.1 hI10.2.2 h13) E
          refine X_if_ne (tgt := 69) Γ d_B_replicasInSync_38 (by decide) rfl (fun h38 => ?_) (fun h38 => ?_)
          · replace E := E.trans (if_neg h38)
            refine X_loc [1, 2, 3, 4, 5, 0] rfl ?_
            exact J69 v3_10 trivial E
          · replace E := E.trans (if_pos h38)
            refine X_aload_n Γ d_B_replicasInSync_41 rfl 1 rfl rfl ?_
            refine X_get Γ d_B_replicasInSync_42 (Nat.lt_of_lt_of_le n_2 (by decide : 6 ≤ 56)) (kC_B n_1 n_2) rfl in_B 11 (by decide) w168 rfl rfl rfl ?_
            refine X_iload Γ d_B_replicasInSync_45 5 rfl rfl ?_
            refine X_callSNi (rest := []) Γ d_B_replicasInSync_47 (m_I_contains l D _ _ _ _ hJ _ _ (G n 11) v4_10) w255 w256 w1 w257 e_I_contains ⟨by decide, by decide⟩ ⟨rfl, rfl⟩ rfl rfl (Nat.le_of_ble_eq_true rfl) rfl ?_
            refine X_if_ne (tgt := 62) Γ d_B_replicasInSync_50 (by decide) rfl (fun h50 => ?_) (fun h50 => ?_)
            · replace E := E.trans (if_neg h50)
              refine X_iload_n Γ d_B_replicasInSync_62 rfl 4 rfl rfl ?_
              refine X_iconst (v := 1) Γ d_B_replicasInSync_63 (by decide) rfl ?_
              refine X_iload Γ d_B_replicasInSync_64 5 rfl rfl ?_
              refine X_ishl Γ d_B_replicasInSync_66 rfl ?_
              refine X_ior Γ d_B_replicasInSync_67 rfl ?_
              refine X_istore_n Γ d_B_replicasInSync_68 rfl (by decide) rfl rfl ?_
              refine X_loc [2, 3, 4, 0, 5, 1] rfl ?_
              exact J69 (v3_10 ||| (1 <<< (v4_10 &&& 31))) trivial E
            · replace E := E.trans (if_pos h50)
              refine X_aload_n Γ d_B_replicasInSync_53 rfl 1 rfl rfl ?_
              refine X_iload Γ d_B_replicasInSync_54 5 rfl rfl ?_
              refine X_callVi (rest := []) Γ d_B_replicasInSync_56 (m_B_hasFetchedEnough l D cI cZ cB cM a hJ P G n n_1 n_2 v4_10 (lc_in (by decide) (by decide) hI10.2.1 hI10.2.2 h13)) (Nat.lt_of_lt_of_le n_2 (by decide : 6 ≤ 56)) (kC_B n_1 n_2) rfl rfl w401 w403 s_B_hasFetchedEnough w6 w404 e_B_hasFetchedEnough ⟨by decide, by decide⟩ ⟨rfl, rfl⟩ rfl rfl (Nat.le_of_ble_eq_true rfl) rfl ?_
              refine X_if_eq (tgt := 69) Γ d_B_replicasInSync_59 (by decide) rfl (fun h59 => ?_) (fun h59 => ?_)
              · replace E := E.trans (if_pos h59)
                refine X_loc [1, 2, 3, 4, 5, 0] rfl ?_
                exact J69 v3_10 trivial E
              · replace E := E.trans (if_neg h59)
                refine X_iload_n Γ d_B_replicasInSync_62 rfl 4 rfl rfl ?_
                refine X_iconst (v := 1) Γ d_B_replicasInSync_63 (by decide) rfl ?_
                refine X_iload Γ d_B_replicasInSync_64 5 rfl rfl ?_
                refine X_ishl Γ d_B_replicasInSync_66 rfl ?_
                refine X_ior Γ d_B_replicasInSync_67 rfl ?_
                refine X_istore_n Γ d_B_replicasInSync_68 rfl (by decide) rfl rfl ?_
                refine X_loc [2, 3, 4, 0, 5, 1] rfl ?_
                exact J69 (v3_10 ||| (1 <<< (v4_10 &&& 31))) trivial E
        refine X_icmp_le (tgt := 33) Γ d_B_replicasInSync_26 (by decide) rfl (fun h26 => ?_) (fun h26 => ?_)
        · replace E := E.trans (if_pos h26)
          refine X_iconst (v := 0) Γ d_B_replicasInSync_33 (by decide) rfl ?_
          refine X_loc [0, 1, 2, 3, 4] rfl ?_
          exact J34 0 trivial E
        · replace E := E.trans (if_neg h26)
          refine X_iconst (v := 1) Γ d_B_replicasInSync_29 (by decide) rfl ?_
          refine X_goto (pc' := 34) Γ d_B_replicasInSync_30 (by decide) ?_
          refine X_loc [0, 1, 2, 3, 4] rfl ?_
          exact J34 1 trivial E
  refine X_loc [2, 3, 4, 1, 0] rfl ?_
  exact J10 5 (1 <<< ((G n 0) &&& 31)) 0 (⟨by decide, by decide, by decide⟩) E
def f_B_isExpecting (n : Nat) (n1_ : Nat) (G : Nat → Nat → Int32) : Int32 := (if (G n 4) = 0 then 0 else (if ((f_B_leads n G)) = 0 then (if (G n 5) = (G n1_ 5) then (if (G n 9) = 0 then 0 else (if (G n 8) = (G n1_ 6) then 1 else 0)) else 0) else 0))
theorem e_B_isExpecting : y_B_isExpecting.cls ≠ "java/lang/invoke/MethodHandle" ∧ y_B_isExpecting.cls ≠ "java/lang/invoke/VarHandle" ∧ (parseMethodDescriptor y_B_isExpecting.desc).map (fun d => d.parameters.length) = some 1 := by decide +kernel
set_option maxHeartbeats 4000000 in
set_option maxRecDepth 100000 in
theorem m_B_isExpecting (l : Launch) (D : va_G) (cI cZ cB cM : ClassId) (a : Nat → Nat) (hJ : xJ 56 a) (P : Nat → Nat) (G : Nat → Nat → Int32) (n : Nat) (n_1 : 2 ≤ n) (n_2 : n < 6) (n1_ : Nat) (n1_1 : 29 ≤ n1_) (n1_2 : n1_ < 38) : Met l y_B_isExpecting (Cond.code y_B_isExpecting prog_2_method_11_code 2 (Option.some FieldType.boolean) :: wsBig) { frames := 1, cells := 0, slots := 0, locals := 20 } (xP D xcl (xty cI cZ cB cM) 56 a (kg (kC cI cB cM a P) G) [.ref (a n), .ref (a n1_)]) (xQi D xcl 56 a (f_B_isExpecting n n1_ G) (kg (kC cI cB cM a P) G)) 0 0 (xA 56 a) := by
  refine X_met (by decide) rfl (Nat.le_of_ble_eq_true rfl) hJ (fun Y s m args Γ => ?_)
  show X Y s m D xcl 56 a 2 (kg (kC cI cB cM a P) G) 0 [(0, .ref (a n)), (1, .ref (a n1_))] []
  have E := f_B_isExpecting.eq_1 n n1_ G
  refine X_aload_n Γ d_B_isExpecting_0 rfl 0 rfl rfl ?_
  refine X_get Γ d_B_isExpecting_1 (Nat.lt_of_lt_of_le n_2 (by decide : 6 ≤ 56)) (kC_B n_1 n_2) rfl in_B 4 (by decide) w154 rfl rfl rfl ?_
  refine X_if_eq (tgt := 47) Γ d_B_isExpecting_4 (by decide) rfl (fun h4 => ?_) (fun h4 => ?_)
  · replace E := E.trans (if_pos h4)
    refine X_iconst (v := 0) Γ d_B_isExpecting_47 (by decide) rfl ?_
    exact X_iretz Γ d_B_isExpecting_48 rfl E.symm rfl
  · replace E := E.trans (if_neg h4)
    refine X_aload_n Γ d_B_isExpecting_7 rfl 0 rfl rfl ?_
    refine X_callVi (rest := []) Γ d_B_isExpecting_8 (m_B_leads l D cI cZ cB cM a hJ P G n n_1 n_2) (Nat.lt_of_lt_of_le n_2 (by decide : 6 ≤ 56)) (kC_B n_1 n_2) rfl rfl w364 w230 s_B_leads w6 w231 e_B_leads ⟨by decide, by decide⟩ ⟨rfl, rfl⟩ rfl rfl (Nat.le_of_ble_eq_true rfl) rfl ?_
    refine X_if_ne (tgt := 47) Γ d_B_isExpecting_11 (by decide) rfl (fun h11 => ?_) (fun h11 => ?_)
    · replace E := E.trans (if_neg h11)
      refine X_iconst (v := 0) Γ d_B_isExpecting_47 (by decide) rfl ?_
      exact X_iretz Γ d_B_isExpecting_48 rfl E.symm rfl
    · replace E := E.trans (if_pos h11)
      refine X_aload_n Γ d_B_isExpecting_14 rfl 0 rfl rfl ?_
      refine X_get Γ d_B_isExpecting_15 (Nat.lt_of_lt_of_le n_2 (by decide : 6 ≤ 56)) (kC_B n_1 n_2) rfl in_B 5 (by decide) w156 rfl rfl rfl ?_
      refine X_aload_n Γ d_B_isExpecting_18 rfl 1 rfl rfl ?_
      refine X_getN Γ d_B_isExpecting_19 (Nat.lt_of_lt_of_le n1_2 (by decide : 38 ≤ 56)) (kC_G n1_1 n1_2) rfl in_G 5 (by decide) w77 rfl rfl rfl ?_
      refine X_icmp_ne (tgt := 47) Γ d_B_isExpecting_22 (by decide) rfl (fun h22 => ?_) (fun h22 => ?_)
      · replace E := E.trans (if_neg h22)
        refine X_iconst (v := 0) Γ d_B_isExpecting_47 (by decide) rfl ?_
        exact X_iretz Γ d_B_isExpecting_48 rfl E.symm rfl
      · replace E := E.trans (if_pos h22)
        refine X_aload_n Γ d_B_isExpecting_25 rfl 0 rfl rfl ?_
        refine X_get Γ d_B_isExpecting_26 (Nat.lt_of_lt_of_le n_2 (by decide : 6 ≤ 56)) (kC_B n_1 n_2) rfl in_B 9 (by decide) w165 rfl rfl rfl ?_
        refine X_if_eq (tgt := 47) Γ d_B_isExpecting_29 (by decide) rfl (fun h29 => ?_) (fun h29 => ?_)
        · replace E := E.trans (if_pos h29)
          refine X_iconst (v := 0) Γ d_B_isExpecting_47 (by decide) rfl ?_
          exact X_iretz Γ d_B_isExpecting_48 rfl E.symm rfl
        · replace E := E.trans (if_neg h29)
          refine X_aload_n Γ d_B_isExpecting_32 rfl 0 rfl rfl ?_
          refine X_get Γ d_B_isExpecting_33 (Nat.lt_of_lt_of_le n_2 (by decide : 6 ≤ 56)) (kC_B n_1 n_2) rfl in_B 8 (by decide) w163 rfl rfl rfl ?_
          refine X_aload_n Γ d_B_isExpecting_36 rfl 1 rfl rfl ?_
          refine X_getN Γ d_B_isExpecting_37 (Nat.lt_of_lt_of_le n1_2 (by decide : 38 ≤ 56)) (kC_G n1_1 n1_2) rfl in_G 6 (by decide) w81 rfl rfl rfl ?_
          refine X_icmp_ne (tgt := 47) Γ d_B_isExpecting_40 (by decide) rfl (fun h40 => ?_) (fun h40 => ?_)
          · replace E := E.trans (if_neg h40)
            refine X_iconst (v := 0) Γ d_B_isExpecting_47 (by decide) rfl ?_
            exact X_iretz Γ d_B_isExpecting_48 rfl E.symm rfl
          · replace E := E.trans (if_pos h40)
            refine X_iconst (v := 1) Γ d_B_isExpecting_43 (by decide) rfl ?_
            refine X_goto (pc' := 48) Γ d_B_isExpecting_44 (by decide) ?_
            exact X_iretz Γ d_B_isExpecting_48 rfl E.symm rfl
theorem raise_10 {n : Nat} {G : Nat → Nat → Int32} : ∀ (k : Nat) (v w : Int32), ∃ x : Int32, f_B_raiseHw_10 n G k v w = g2 G n 7 x ∨ f_B_raiseHw_10 n G k v w = G := by
  intro k
  induction k with
  | zero => intro v w; exact ⟨0, Or.inr rfl⟩
  | succ k ih =>
    intro v w
    rw [f_B_raiseHw_10]
    by_cases h : 4 ≤ w
    · rw [if_pos h]; exact ⟨_, Or.inl rfl⟩
    · rw [if_neg h]
      simp only [jn]
      split
      · exact ih _ _
      · split
        · exact ih _ _
        · exact ih _ _
theorem raise_ne {n i : Nat} {G : Nat → Nat → Int32} (h : i ≠ n) : f_B_raiseHw n G i = G i := by
  unfold f_B_raiseHw
  obtain ⟨x, e | e⟩ := raise_10 (n := n) (G := G) 5 (G (n + 4) 2) 0
  · rw [e, g2_ne _ _ _ h]
  · rw [e]
theorem nf_ne {n i : Nat} {x1 x2 x3 : Int32} {G : Nat → Nat → Int32} (h0 : i ≠ n) (h1 : i ≠ n + 16) (h2 : i ≠ n + 20) : f_B_noteFetched n x1 x2 x3 G i = G i := by
  unfold f_B_noteFetched
  split <;> split <;> first | rw [raise_ne h0, g2_ne _ _ _ h2, g2_ne _ _ _ h1] | rw [raise_ne h0, g2_ne _ _ _ h1]
theorem okL_nf {n : Nat} {x1 x2 x3 : Int32} {G : Nat → Nat → Int32} (h : okL G (n + 4)) (_n1 : 2 ≤ n) (_n2 : n < 6) : okL (f_B_noteFetched n x1 x2 x3 G) (n + 4) := okL_of h (nf_ne (by omega) (by omega) (by omega))
