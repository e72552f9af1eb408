def f_I_review (x1 : Int32) (G : Nat → Nat → Int32) : Int32 × (Nat → Nat → Int32) := (if ((f_I_isLeading x1 G)) = 0 then ((-1), G) else (if (G (2 + x1.toNatClampNeg) 5) = (G 26 0) then ((((f_B_raiseHw (2 + x1.toNatClampNeg) (g2 (g2 G 26 2 ((f_B_replicasInSync (2 + x1.toNatClampNeg) (G 0 6) (G 0 0) G))) (2 + x1.toNatClampNeg) 11 ((g2 G 26 2 ((f_B_replicasInSync (2 + x1.toNatClampNeg) (G 0 6) (G 0 0) G))) 26 2)))) 26 2), ((f_B_raiseHw (2 + x1.toNatClampNeg) (g2 (g2 G 26 2 ((f_B_replicasInSync (2 + x1.toNatClampNeg) (G 0 6) (G 0 0) G))) (2 + x1.toNatClampNeg) 11 ((g2 G 26 2 ((f_B_replicasInSync (2 + x1.toNatClampNeg) (G 0 6) (G 0 0) G))) 26 2))))) else ((-1), G)))
theorem e_I_review : y_I_review.cls ≠ "java/lang/invoke/MethodHandle" ∧ y_I_review.cls ≠ "java/lang/invoke/VarHandle" ∧ (parseMethodDescriptor y_I_review.desc).map (fun d => d.parameters.length) = some 1 := by decide +kernel
set_option maxHeartbeats 4000000 in
set_option maxRecDepth 100000 in
theorem m_I_review (l : Launch) (D : va_G) (cI cZ cB cM : ClassId) (a : Nat → Nat) (hJ : xJ 56 a) (P : Nat → Nat) (G : Nat → Nat → Int32) (x1 : Int32) : Met l y_I_review (Cond.code y_I_review prog_1_method_11_code 3 (Option.some FieldType.int) :: wsBig) { frames := 2, cells := 0, slots := 0, locals := 46 } (xP D xcl (xty cI cZ cB cM) 56 a (kg (kC cI cB cM a P) G) [.ref (a 0), .int x1]) (xQi D xcl 56 a ((f_I_review x1 G).1) (kg (kC cI cB cM a P) ((f_I_review x1 G).2))) 0 0 (xA 56 a) := by
  refine X_met (by decide) rfl (Nat.le_of_ble_eq_true rfl) hJ (fun Y s m args Γ => ?_)
  show X Y s m D xcl 56 a 3 (kg (kC cI cB cM a P) G) 0 [(0, .ref (a 0)), (1, .int x1)] []
  have E := f_I_review.eq_1 x1 G
  refine X_aload_n Γ d_I_review_0 rfl 0 rfl rfl ?_
  refine X_iload_n Γ d_I_review_1 rfl 1 rfl rfl ?_
  refine X_callVi (rest := []) Γ d_I_review_2 (m_I_isLeading l D cI cZ cB cM a hJ P G x1) (by decide) kC_I rfl rfl w221 w223 s_I_isLeading w1 w224 e_I_isLeading ⟨by decide, by decide⟩ ⟨rfl, rfl⟩ rfl rfl (Nat.le_of_ble_eq_true rfl) rfl ?_
  refine X_if_eq (tgt := 27) Γ d_I_review_5 (by decide) rfl (fun h5 => ?_) (fun h5 => ?_)
  · replace E := E.trans (if_pos h5)
    refine X_iconst (v := (-1)) Γ d_I_review_27 (by decide) rfl ?_
    exact X_ireti Γ d_I_review_28 (g_r E) (g_eq E)
  · replace E := E.trans (if_neg h5)
    refine X_aload_n Γ d_I_review_8 rfl 0 rfl rfl ?_
    refine X_get Γ d_I_review_9 (by decide) kC_I rfl in_I 3 (by decide) w198 rfl rfl rfl ?_
    refine X_iload_n Γ d_I_review_12 rfl 1 rfl rfl ?_
    refine X_aald Γ d_I_review_13 (by decide) kC_BA 2 rfl (isLd_in h5) rfl rfl ?_
    refine X_getN Γ d_I_review_14 (Nat.lt_of_lt_of_le (Nat.add_lt_add_left (vp_lt (isLd_in h5)) 2) (by decide : 6 ≤ 56)) (kC_B (Nat.le_add_right 2 _) (Nat.add_lt_add_left (vp_lt (isLd_in h5)) 2)) rfl in_B 5 (by decide) w157 rfl rfl rfl ?_
    refine X_aload_n Γ d_I_review_17 rfl 0 rfl rfl ?_
    refine X_get Γ d_I_review_18 (by decide) kC_I rfl in_I 4 (by decide) w199 rfl rfl rfl ?_
    refine X_getN Γ d_I_review_21 (by decide) kC_T rfl in_T 0 (by decide) w36 rfl rfl rfl ?_
    refine X_icmp_eq (tgt := 29) Γ d_I_review_24 (by decide) rfl (fun h24 => ?_) (fun h24 => ?_)
    · replace E := E.trans (if_pos h24)
      refine X_aload_n Γ d_I_review_29 rfl 0 rfl rfl ?_
      refine X_get Γ d_I_review_30 (by decide) kC_I rfl in_I 3 (by decide) w198 rfl rfl rfl ?_
      refine X_iload_n Γ d_I_review_33 rfl 1 rfl rfl ?_
      refine X_aald Γ d_I_review_34 (by decide) kC_BA 2 rfl (isLd_in h5) rfl rfl ?_
      refine X_astore_n Γ d_I_review_35 rfl (by decide) rfl rfl ?_
      refine X_aload_n Γ d_I_review_36 rfl 1 rfl rfl ?_
      refine X_get Γ d_I_review_37 (by decide) kC_I rfl in_I 4 (by decide) w199 rfl rfl rfl ?_
      refine X_aload_n Γ d_I_review_40 rfl 0 rfl rfl ?_
      refine X_aload_n Γ d_I_review_41 rfl 1 rfl rfl ?_
      refine X_get Γ d_I_review_42 (by decide) kC_I rfl in_I 6 (by decide) w201 rfl rfl rfl ?_
      refine X_aload_n Γ d_I_review_45 rfl 1 rfl rfl ?_
      refine X_get Γ d_I_review_46 (by decide) kC_I rfl in_I 0 (by decide) w195 rfl rfl rfl ?_
      refine X_callVNi (rest := [.ref (a 26)]) Γ d_I_review_49 (m_B_replicasInSync l D cI cZ cB cM a hJ P G (2 + x1.toNatClampNeg) (Nat.le_add_right 2 _) (Nat.add_lt_add_left (vp_lt (isLd_in h5)) 2) (G 0 6) (G 0 0)) (Nat.lt_of_lt_of_le (Nat.add_lt_add_left (vp_lt (isLd_in h5)) 2) (by decide : 6 ≤ 56)) (kC_B (Nat.le_add_right 2 _) (Nat.add_lt_add_left (vp_lt (isLd_in h5)) 2)) rfl rfl w397 w399 s_B_replicasInSync w6 w400 e_B_replicasInSync ⟨by decide, by decide⟩ ⟨rfl, rfl⟩ rfl rfl (Nat.le_of_ble_eq_true rfl) rfl ?_
      refine X_putN (ty := .int) Γ d_I_review_52 (by decide) kC_T rfl in_T 2 (by decide) w42 rfl ty_T ty_T_ok nm_T rfl (by decide +kernel) rfl rfl (Nat.le_of_ble_eq_true rfl) kp_T_2 rfl ?_
      refine X_aload_n Γ d_I_review_55 rfl 0 rfl rfl ?_
      refine X_aload_n Γ d_I_review_56 rfl 1 rfl rfl ?_
      refine X_get Γ d_I_review_57 (by decide) kC_I rfl in_I 4 (by decide) w199 rfl rfl rfl ?_
      refine X_getN Γ d_I_review_60 (by decide) kC_T rfl in_T 2 (by decide) w42 rfl rfl rfl ?_
      refine X_putN (ty := .int) Γ d_I_review_63 (Nat.lt_of_lt_of_le (Nat.add_lt_add_left (vp_lt (isLd_in h5)) 2) (by decide : 6 ≤ 56)) (kC_B (Nat.le_add_right 2 _) (Nat.add_lt_add_left (vp_lt (isLd_in h5)) 2)) rfl in_B 11 (by decide) w169 rfl ty_B ty_B_ok nm_B rfl (by decide +kernel) rfl rfl (Nat.le_of_ble_eq_true rfl) (kp_B_11 (Nat.le_add_right 2 _) (Nat.add_lt_add_left (vp_lt (isLd_in h5)) 2)) rfl ?_
      refine X_aload_n Γ d_I_review_66 rfl 0 rfl rfl ?_
      refine X_callVNv (rest := []) Γ d_I_review_67 (m_B_raiseHw l D cI cZ cB cM a hJ P (g2 (g2 G 26 2 ((f_B_replicasInSync (2 + x1.toNatClampNeg) (G 0 6) (G 0 0) G))) (2 + x1.toNatClampNeg) 11 ((g2 G 26 2 ((f_B_replicasInSync (2 + x1.toNatClampNeg) (G 0 6) (G 0 0) G))) 26 2)) (2 + x1.toNatClampNeg) (Nat.le_add_right 2 _) (Nat.add_lt_add_left (vp_lt (isLd_in h5)) 2)) (Nat.lt_of_lt_of_le (Nat.add_lt_add_left (vp_lt (isLd_in h5)) 2) (by decide : 6 ≤ 56)) (kC_B (Nat.le_add_right 2 _) (Nat.add_lt_add_left (vp_lt (isLd_in h5)) 2)) rfl rfl w251 w253 s_B_raiseHw w6 w254 e_B_raiseHw ⟨by decide, by decide⟩ ⟨rfl, rfl⟩ rfl rfl (Nat.le_of_ble_eq_true rfl) rfl ?_
      refine X_aload_n Γ d_I_review_70 rfl 1 rfl rfl ?_
      refine X_get Γ d_I_review_71 (by decide) kC_I rfl in_I 4 (by decide) w199 rfl rfl rfl ?_
      refine X_getN Γ d_I_review_74 (by decide) kC_T rfl in_T 2 (by decide) w42 rfl rfl rfl ?_
      exact X_ireti Γ d_I_review_77 (g_r E) (g_eq E)
    · replace E := E.trans (if_neg h24)
      refine X_iconst (v := (-1)) Γ d_I_review_27 (by decide) rfl ?_
      exact X_ireti Γ d_I_review_28 (g_r E) (g_eq E)
def f_I_learn (x1 : Int32) (G : Nat → Nat → Int32) : Int32 × (Nat → Nat → Int32) := (if ((f_I_isUp x1 G)) = 0 then (0, G) else (if (G (2 + x1.toNatClampNeg) 5) = (G 26 0) then (0, G) else (1, ((f_B_adopt (2 + x1.toNatClampNeg) (G 0 6) G)))))
theorem e_I_learn : y_I_learn.cls ≠ "java/lang/invoke/MethodHandle" ∧ y_I_learn.cls ≠ "java/lang/invoke/VarHandle" ∧ (parseMethodDescriptor y_I_learn.desc).map (fun d => d.parameters.length) = some 1 := by decide +kernel
set_option maxHeartbeats 4000000 in
set_option maxRecDepth 100000 in
theorem m_I_learn (l : Launch) (D : va_G) (cI cZ cB cM : ClassId) (a : Nat → Nat) (hJ : xJ 56 a) (P : Nat → Nat) (G : Nat → Nat → Int32) (x1 : Int32) : Met l y_I_learn (Cond.code y_I_learn prog_1_method_12_code 2 (Option.some FieldType.boolean) :: wsBig) { frames := 2, cells := 0, slots := 0, locals := 45 } (xP D xcl (xty cI cZ cB cM) 56 a (kg (kC cI cB cM a P) G) [.ref (a 0), .int x1]) (xQi D xcl 56 a ((f_I_learn x1 G).1) (kg (kC cI cB cM a P) ((f_I_learn x1 G).2))) 0 0 (xA 56 a) := by
  refine X_met (by decide) rfl (Nat.le_of_ble_eq_true rfl) hJ (fun Y s m args Γ => ?_)
  show X Y s m D xcl 56 a 2 (kg (kC cI cB cM a P) G) 0 [(0, .ref (a 0)), (1, .int x1)] []
  have E := f_I_learn.eq_1 x1 G
  refine X_aload_n Γ d_I_learn_0 rfl 0 rfl rfl ?_
  refine X_iload_n Γ d_I_learn_1 rfl 1 rfl rfl ?_
  refine X_callVi (rest := []) Γ d_I_learn_2 (m_I_isUp l D cI cZ cB cM a hJ P G x1) (by decide) kC_I rfl rfl w293 w295 s_I_isUp w1 w296 e_I_isUp ⟨by decide, by decide⟩ ⟨rfl, rfl⟩ rfl rfl (Nat.le_of_ble_eq_true rfl) rfl ?_
  refine X_if_eq (tgt := 27) Γ d_I_learn_5 (by decide) rfl (fun h5 => ?_) (fun h5 => ?_)
  · replace E := E.trans (if_pos h5)
    refine X_iconst (v := 0) Γ d_I_learn_27 (by decide) rfl ?_
    exact X_iretz Γ d_I_learn_28 rfl (g_r E) (g_eq E)
  · replace E := E.trans (if_neg h5)
    refine X_aload_n Γ d_I_learn_8 rfl 0 rfl rfl ?_
    refine X_get Γ d_I_learn_9 (by decide) kC_I rfl in_I 3 (by decide) w198 rfl rfl rfl ?_
    refine X_iload_n Γ d_I_learn_12 rfl 1 rfl rfl ?_
    refine X_aald Γ d_I_learn_13 (by decide) kC_BA 2 rfl (isUp_in h5) rfl rfl ?_
    refine X_getN Γ d_I_learn_14 (Nat.lt_of_lt_of_le (Nat.add_lt_add_left (vp_lt (isUp_in h5)) 2) (by decide : 6 ≤ 56)) (kC_B (Nat.le_add_right 2 _) (Nat.add_lt_add_left (vp_lt (isUp_in h5)) 2)) rfl in_B 5 (by decide) w157 rfl rfl rfl ?_
    refine X_aload_n Γ d_I_learn_17 rfl 0 rfl rfl ?_
    refine X_get Γ d_I_learn_18 (by decide) kC_I rfl in_I 4 (by decide) w199 rfl rfl rfl ?_
    refine X_getN Γ d_I_learn_21 (by decide) kC_T rfl in_T 0 (by decide) w36 rfl rfl rfl ?_
    refine X_icmp_ne (tgt := 29) Γ d_I_learn_24 (by decide) rfl (fun h24 => ?_) (fun h24 => ?_)
    · replace E := E.trans (if_neg h24)
      refine X_aload_n Γ d_I_learn_29 rfl 0 rfl rfl ?_
      refine X_get Γ d_I_learn_30 (by decide) kC_I rfl in_I 3 (by decide) w198 rfl rfl rfl ?_
      refine X_iload_n Γ d_I_learn_33 rfl 1 rfl rfl ?_
      refine X_aald Γ d_I_learn_34 (by decide) kC_BA 2 rfl (isUp_in h5) rfl rfl ?_
      refine X_aload_n Γ d_I_learn_35 rfl 0 rfl rfl ?_
      refine X_get Γ d_I_learn_36 (by decide) kC_I rfl in_I 4 (by decide) w199 rfl rfl rfl ?_
      refine X_aload_n Γ d_I_learn_39 rfl 0 rfl rfl ?_
      refine X_get Γ d_I_learn_40 (by decide) kC_I rfl in_I 6 (by decide) w201 rfl rfl rfl ?_
      refine X_callVNv (rest := []) Γ d_I_learn_43 (m_B_adopt l D cI cZ cB cM a hJ P G (2 + x1.toNatClampNeg) (Nat.le_add_right 2 _) (Nat.add_lt_add_left (vp_lt (isUp_in h5)) 2) (G 0 6)) (Nat.lt_of_lt_of_le (Nat.add_lt_add_left (vp_lt (isUp_in h5)) 2) (by decide : 6 ≤ 56)) (kC_B (Nat.le_add_right 2 _) (Nat.add_lt_add_left (vp_lt (isUp_in h5)) 2)) rfl rfl w409 w411 s_B_adopt w6 w412 e_B_adopt ⟨by decide, by decide⟩ ⟨rfl, rfl⟩ rfl rfl (Nat.le_of_ble_eq_true rfl) rfl ?_
      refine X_iconst (v := 1) Γ d_I_learn_46 (by decide) rfl ?_
      exact X_iretz Γ d_I_learn_47 rfl (g_r E) (g_eq E)
    · replace E := E.trans (if_pos h24)
      refine X_iconst (v := 0) Γ d_I_learn_27 (by decide) rfl ?_
      exact X_iretz Γ d_I_learn_28 rfl (g_r E) (g_eq E)
def f_I_crash (x1 : Int32) (G : Nat → Nat → Int32) : Int32 × (Nat → Nat → Int32) := (if ((f_I_isUp x1 G)) = 0 then (0, G) else (1, ((f_B_goDown (2 + x1.toNatClampNeg) G))))
theorem e_I_crash : y_I_crash.cls ≠ "java/lang/invoke/MethodHandle" ∧ y_I_crash.cls ≠ "java/lang/invoke/VarHandle" ∧ (parseMethodDescriptor y_I_crash.desc).map (fun d => d.parameters.length) = some 1 := by decide +kernel
set_option maxHeartbeats 4000000 in
set_option maxRecDepth 100000 in
theorem m_I_crash (l : Launch) (D : va_G) (cI cZ cB cM : ClassId) (a : Nat → Nat) (hJ : xJ 56 a) (P : Nat → Nat) (G : Nat → Nat → Int32) (x1 : Int32) : Met l y_I_crash (Cond.code y_I_crash prog_1_method_13_code 2 (Option.some FieldType.boolean) :: wsBig) { frames := 2, cells := 0, slots := 0, locals := 41 } (xP D xcl (xty cI cZ cB cM) 56 a (kg (kC cI cB cM a P) G) [.ref (a 0), .int x1]) (xQi D xcl 56 a ((f_I_crash x1 G).1) (kg (kC cI cB cM a P) ((f_I_crash x1 G).2))) 0 0 (xA 56 a) := by
  refine X_met (by decide) rfl (Nat.le_of_ble_eq_true rfl) hJ (fun Y s m args Γ => ?_)
  show X Y s m D xcl 56 a 2 (kg (kC cI cB cM a P) G) 0 [(0, .ref (a 0)), (1, .int x1)] []
  have E := f_I_crash.eq_1 x1 G
  refine X_aload_n Γ d_I_crash_0 rfl 0 rfl rfl ?_
  refine X_iload_n Γ d_I_crash_1 rfl 1 rfl rfl ?_
  refine X_callVi (rest := []) Γ d_I_crash_2 (m_I_isUp l D cI cZ cB cM a hJ P G x1) (by decide) kC_I rfl rfl w293 w295 s_I_isUp w1 w296 e_I_isUp ⟨by decide, by decide⟩ ⟨rfl, rfl⟩ rfl rfl (Nat.le_of_ble_eq_true rfl) rfl ?_
  refine X_if_ne (tgt := 10) Γ d_I_crash_5 (by decide) rfl (fun h5 => ?_) (fun h5 => ?_)
  · replace E := E.trans (if_neg h5)
    refine X_aload_n Γ d_I_crash_10 rfl 0 rfl rfl ?_
    refine X_get Γ d_I_crash_11 (by decide) kC_I rfl in_I 3 (by decide) w198 rfl rfl rfl ?_
    refine X_iload_n Γ d_I_crash_14 rfl 1 rfl rfl ?_
    refine X_aald Γ d_I_crash_15 (by decide) kC_BA 2 rfl (isUp_in h5) rfl rfl ?_
    refine X_callVNv (rest := []) Γ d_I_crash_16 (m_B_goDown l D cI cZ cB cM a hJ P G (2 + x1.toNatClampNeg) (Nat.le_add_right 2 _) (Nat.add_lt_add_left (vp_lt (isUp_in h5)) 2)) (Nat.lt_of_lt_of_le (Nat.add_lt_add_left (vp_lt (isUp_in h5)) 2) (by decide : 6 ≤ 56)) (kC_B (Nat.le_add_right 2 _) (Nat.add_lt_add_left (vp_lt (isUp_in h5)) 2)) rfl rfl w417 w419 s_B_goDown w6 w420 e_B_goDown ⟨by decide, by decide⟩ ⟨rfl, rfl⟩ rfl rfl (Nat.le_of_ble_eq_true rfl) rfl ?_
    refine X_iconst (v := 1) Γ d_I_crash_19 (by decide) rfl ?_
    exact X_iretz Γ d_I_crash_20 rfl (g_r E) (g_eq E)
  · replace E := E.trans (if_pos h5)
    refine X_iconst (v := 0) Γ d_I_crash_8 (by decide) rfl ?_
    exact X_iretz Γ d_I_crash_9 rfl (g_r E) (g_eq E)
def f_I_restart (x1 : Int32) (G : Nat → Nat → Int32) : Int32 × (Nat → Nat → Int32) := (if ((f_I_isBroker x1)) = 0 then (0, G) else (if (G (2 + x1.toNatClampNeg) 4) = 0 then (1, (g2 G (2 + x1.toNatClampNeg) 4 1)) else (0, G)))
theorem e_I_restart : y_I_restart.cls ≠ "java/lang/invoke/MethodHandle" ∧ y_I_restart.cls ≠ "java/lang/invoke/VarHandle" ∧ (parseMethodDescriptor y_I_restart.desc).map (fun d => d.parameters.length) = some 1 := by decide +kernel
set_option maxHeartbeats 4000000 in
set_option maxRecDepth 100000 in
theorem m_I_restart (l : Launch) (D : va_G) (cI cZ cB cM : ClassId) (a : Nat → Nat) (hJ : xJ 56 a) (P : Nat → Nat) (G : Nat → Nat → Int32) (x1 : Int32) : Met l y_I_restart (Cond.code y_I_restart prog_1_method_14_code 2 (Option.some FieldType.boolean) :: wsBig) { frames := 1, cells := 0, slots := 0, locals := 20 } (xP D xcl (xty cI cZ cB cM) 56 a (kg (kC cI cB cM a P) G) [.ref (a 0), .int x1]) (xQi D xcl 56 a ((f_I_restart x1 G).1) (kg (kC cI cB cM a P) ((f_I_restart x1 G).2))) 0 0 (xA 56 a) := by
  refine X_met (by decide) rfl (Nat.le_of_ble_eq_true rfl) hJ (fun Y s m args Γ => ?_)
  show X Y s m D xcl 56 a 2 (kg (kC cI cB cM a P) G) 0 [(0, .ref (a 0)), (1, .int x1)] []
  have E := f_I_restart.eq_1 x1 G
  refine X_iload_n Γ d_I_restart_0 rfl 1 rfl rfl ?_
  refine X_callSi (rest := []) Γ d_I_restart_1 (m_I_isBroker l D _ _ _ _ hJ _ _ x1) w225 w226 w1 w227 e_I_isBroker ⟨by decide, by decide⟩ ⟨rfl, rfl⟩ rfl rfl (Nat.le_of_ble_eq_true rfl) rfl ?_
  refine X_if_eq (tgt := 19) Γ d_I_restart_4 (by decide) rfl (fun h4 => ?_) (fun h4 => ?_)
  · replace E := E.trans (if_pos h4)
    refine X_iconst (v := 0) Γ d_I_restart_19 (by decide) rfl ?_
    exact X_iretz Γ d_I_restart_20 rfl (g_r E) (g_eq E)
  · replace E := E.trans (if_neg h4)
    refine X_aload_n Γ d_I_restart_7 rfl 0 rfl rfl ?_
    refine X_get Γ d_I_restart_8 (by decide) kC_I rfl in_I 3 (by decide) w198 rfl rfl rfl ?_
    refine X_iload_n Γ d_I_restart_11 rfl 1 rfl rfl ?_
    refine X_aald Γ d_I_restart_12 (by decide) kC_BA 2 rfl (isB_in h4) rfl rfl ?_
    refine X_getN Γ d_I_restart_13 (Nat.lt_of_lt_of_le (Nat.add_lt_add_left (vp_lt (isB_in h4)) 2) (by decide : 6 ≤ 56)) (kC_B (Nat.le_add_right 2 _) (Nat.add_lt_add_left (vp_lt (isB_in h4)) 2)) rfl in_B 4 (by decide) w155 rfl rfl rfl ?_
    refine X_if_eq (tgt := 21) Γ d_I_restart_16 (by decide) rfl (fun h16 => ?_) (fun h16 => ?_)
    · replace E := E.trans (if_pos h16)
      refine X_aload_n Γ d_I_restart_21 rfl 0 rfl rfl ?_
      refine X_get Γ d_I_restart_22 (by decide) kC_I rfl in_I 3 (by decide) w198 rfl rfl rfl ?_
      refine X_iload_n Γ d_I_restart_25 rfl 1 rfl rfl ?_
      refine X_aald Γ d_I_restart_26 (by decide) kC_BA 2 rfl (isB_in h4) rfl rfl ?_
      refine X_iconst (v := 1) Γ d_I_restart_27 (by decide) rfl ?_
      refine X_putN (ty := .boolean) Γ d_I_restart_28 (Nat.lt_of_lt_of_le (Nat.add_lt_add_left (vp_lt (isB_in h4)) 2) (by decide : 6 ≤ 56)) (kC_B (Nat.le_add_right 2 _) (Nat.add_lt_add_left (vp_lt (isB_in h4)) 2)) rfl in_B 4 (by decide) w155 rfl ty_B ty_B_ok nm_B rfl (by decide +kernel) rfl rfl (Nat.le_of_ble_eq_true rfl) (kp_B_4 (Nat.le_add_right 2 _) (Nat.add_lt_add_left (vp_lt (isB_in h4)) 2)) rfl ?_
      refine X_iconst (v := 1) Γ d_I_restart_31 (by decide) rfl ?_
      exact X_iretz Γ d_I_restart_32 rfl (g_r E) (g_eq E)
    · replace E := E.trans (if_neg h16)
      refine X_iconst (v := 0) Γ d_I_restart_19 (by decide) rfl ?_
      exact X_iretz Γ d_I_restart_20 rfl (g_r E) (g_eq E)
