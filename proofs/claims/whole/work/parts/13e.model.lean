def f_M_learn (x1 : Int32) (G : Nat → Nat → Int32) : Int32 × (Nat → Nat → Int32) := (if ((f_M_isBroker x1)) = 0 then (0, G) else (if (G 9 x1.toNatClampNeg) = 0 then (0, G) else (if (G 10 x1.toNatClampNeg) = (G 0 4) then (0, G) else (if (G 0 5) = x1 then (1, ((f_M_takeOver x1 (g2 (g2 (g2 G 10 x1.toNatClampNeg (G 0 4)) 11 x1.toNatClampNeg (G 0 5)) 13 x1.toNatClampNeg 0)))) else (1, (g2 (g2 (g2 G 10 x1.toNatClampNeg (G 0 4)) 11 x1.toNatClampNeg (G 0 5)) 13 x1.toNatClampNeg 0))))))
theorem e_M_learn : y_M_learn.cls ≠ "java/lang/invoke/MethodHandle" ∧ y_M_learn.cls ≠ "java/lang/invoke/VarHandle" ∧ (parseMethodDescriptor y_M_learn.desc).map (fun d => d.parameters.length) = some 1 := by decide +kernel
set_option maxHeartbeats 4000000 in
set_option maxRecDepth 100000 in
theorem m_M_learn (l : Launch) (D : va_G) (cI cZ cB cM : ClassId) (a : Nat → Nat) (hJ : xJ 27 a) (G : Nat → Nat → Int32) (x1 : Int32) (hT : okT G) (hZ : ∀ j : Nat, j < 4 → zb (G 1 j)) : Met l y_M_learn (Cond.code y_M_learn prog_8_method_31_code 2 (Option.some FieldType.boolean) :: wsBig) { frames := 1, cells := 0, slots := 0, locals := 22 } (xP D xcl (xty cI cZ cB cM) 27 a (kg (kM cI cZ a) G) [.ref (a 0), .int x1]) (xQi D xcl 27 a ((f_M_learn x1 G).1) (kg (kM cI cZ a) ((f_M_learn x1 G).2))) 0 0 (xA 27 a) := by
  refine X_met (by decide) rfl (Nat.le_of_ble_eq_true rfl) hJ (fun Y s m args Γ => ?_)
  show X Y s m D xcl 27 a 2 (kg (kM cI cZ a) G) 0 [(0, .ref (a 0)), (1, .int x1)] []
  have E := f_M_learn.eq_1 x1 G
  refine X_iload_n Γ d_M_learn_0 rfl 1 rfl rfl ?_
  refine X_callSi (rest := []) Γ d_M_learn_1 (m_M_isBroker l D _ _ _ _ hJ _ _ x1) w592 w593 w9 w594 e_M_isBroker ⟨by decide, by decide⟩ ⟨rfl, rfl⟩ rfl rfl (Nat.le_of_ble_eq_true rfl) rfl ?_
  refine X_if_ne (tgt := 9) Γ d_M_learn_4 (by decide) rfl (fun h4 => ?_) (fun h4 => ?_)
  · replace E := E.trans (if_neg h4)
    refine X_aload_n Γ d_M_learn_9 rfl 0 rfl rfl ?_
    refine X_get Γ d_M_learn_10 (by decide) rfl rfl in_M 15 (by decide) w495 rfl rfl rfl ?_
    refine X_iload_n Γ d_M_learn_13 rfl 1 rfl rfl ?_
    refine X_zald (v := (G 9 x1.toNatClampNeg)) Γ d_M_learn_14 (by decide) rfl 1 rfl (isBM_in h4) rfl rfl ?_
    refine X_if_eq (tgt := 31) Γ d_M_learn_15 (by decide) rfl (fun h15 => ?_) (fun h15 => ?_)
    · replace E := E.trans (if_pos h15)
      refine X_iconst (v := 0) Γ d_M_learn_31 (by decide) rfl ?_
      exact X_iretz Γ d_M_learn_32 rfl (g_r E) (g_eq E)
    · replace E := E.trans (if_neg h15)
      refine X_aload_n Γ d_M_learn_18 rfl 0 rfl rfl ?_
      refine X_get Γ d_M_learn_19 (by decide) rfl rfl in_M 16 (by decide) w496 rfl rfl rfl ?_
      refine X_iload_n Γ d_M_learn_22 rfl 1 rfl rfl ?_
      refine X_iald (v := (G 10 x1.toNatClampNeg)) Γ d_M_learn_23 (by decide) rfl 0 rfl (isBM_in h4) rfl rfl ?_
      refine X_aload_n Γ d_M_learn_24 rfl 0 rfl rfl ?_
      refine X_get Γ d_M_learn_25 (by decide) rfl rfl in_M 4 (by decide) w484 rfl rfl rfl ?_
      refine X_icmp_ne (tgt := 33) Γ d_M_learn_28 (by decide) rfl (fun h28 => ?_) (fun h28 => ?_)
      · replace E := E.trans (if_neg h28)
        refine X_aload_n Γ d_M_learn_33 rfl 0 rfl rfl ?_
        refine X_get Γ d_M_learn_34 (by decide) rfl rfl in_M 16 (by decide) w496 rfl rfl rfl ?_
        refine X_iload_n Γ d_M_learn_37 rfl 1 rfl rfl ?_
        refine X_aload_n Γ d_M_learn_38 rfl 0 rfl rfl ?_
        refine X_get Γ d_M_learn_39 (by decide) rfl rfl in_M 4 (by decide) w484 rfl rfl rfl ?_
        refine X_iast (kx := x1.toNatClampNeg) Γ d_M_learn_42 (by decide) rfl 0 rfl (isBM_in h4) (fun _ => rfl) rfl rfl ?_
        refine X_aload_n Γ d_M_learn_43 rfl 0 rfl rfl ?_
        refine X_get Γ d_M_learn_44 (by decide) rfl rfl in_M 17 (by decide) w497 rfl rfl rfl ?_
        refine X_iload_n Γ d_M_learn_47 rfl 1 rfl rfl ?_
        refine X_aload_n Γ d_M_learn_48 rfl 0 rfl rfl ?_
        refine X_get (v := .int (G 0 5)) Γ d_M_learn_49 (by decide) rfl rfl in_M 5 (by decide) w485 rfl rfl rfl ?_
        refine X_iast (kx := x1.toNatClampNeg) Γ d_M_learn_52 (by decide) rfl 0 rfl (isBM_in h4) (fun _ => rfl) rfl rfl ?_
        refine X_aload_n Γ d_M_learn_53 rfl 0 rfl rfl ?_
        refine X_get Γ d_M_learn_54 (by decide) rfl rfl in_M 19 (by decide) w499 rfl rfl rfl ?_
        refine X_iload_n Γ d_M_learn_57 rfl 1 rfl rfl ?_
        refine X_iconst (v := 0) Γ d_M_learn_58 (by decide) rfl ?_
        refine X_zast (kx := x1.toNatClampNeg) Γ d_M_learn_59 (by decide) rfl 1 rfl (isBM_in h4) rfl (fun _ => rfl) rfl rfl ?_
        refine X_aload_n Γ d_M_learn_60 rfl 0 rfl rfl ?_
        refine X_get (v := .int (G 0 5)) Γ d_M_learn_61 (by decide) rfl rfl in_M 5 (by decide) w485 rfl rfl rfl ?_
        refine X_iload_n Γ d_M_learn_64 rfl 1 rfl rfl ?_
        refine X_icmp_ne (tgt := 73) Γ d_M_learn_65 (by decide) rfl (fun h65 => ?_) (fun h65 => ?_)
        · replace E := E.trans (if_neg h65)
          refine X_iconst (v := 1) Γ d_M_learn_73 (by decide) rfl ?_
          exact X_iretz Γ d_M_learn_74 rfl (g_r E) (g_eq E)
        · replace E := E.trans (if_pos h65)
          refine X_aload_n Γ d_M_learn_68 rfl 0 rfl rfl ?_
          refine X_iload_n Γ d_M_learn_69 rfl 1 rfl rfl ?_
          refine X_callVv (rest := []) Γ d_M_learn_70 (m_M_takeOver l D cI cZ cB cM a hJ (g2 (g2 (g2 G 10 x1.toNatClampNeg (G 0 4)) 11 x1.toNatClampNeg (G 0 5)) 13 x1.toNatClampNeg 0) x1 (isBM_in h4) (okT_of3 hT ⟨rfl, rfl, rfl⟩) hZ) (by decide) rfl rfl rfl w476 w478 s_M_takeOver w9 w479 e_M_takeOver ⟨by decide, by decide⟩ ⟨rfl, rfl⟩ rfl rfl (Nat.le_of_ble_eq_true rfl) rfl ?_
          refine X_iconst (v := 1) Γ d_M_learn_73 (by decide) rfl ?_
          exact X_iretz Γ d_M_learn_74 rfl (g_r E) (g_eq E)
      · replace E := E.trans (if_pos h28)
        refine X_iconst (v := 0) Γ d_M_learn_31 (by decide) rfl ?_
        exact X_iretz Γ d_M_learn_32 rfl (g_r E) (g_eq E)
  · replace E := E.trans (if_pos h4)
    refine X_iconst (v := 0) Γ d_M_learn_7 (by decide) rfl ?_
    exact X_iretz Γ d_M_learn_8 rfl (g_r E) (g_eq E)
def f_M_crash (x1 : Int32) (G : Nat → Nat → Int32) : Int32 × (Nat → Nat → Int32) := (if ((f_M_isBroker x1)) = 0 then (0, G) else (if (G 9 x1.toNatClampNeg) = 0 then (0, G) else (1, (g2 (g2 (g2 (g2 G 9 x1.toNatClampNeg 0) 10 x1.toNatClampNeg 0) 11 x1.toNatClampNeg (-1)) 13 x1.toNatClampNeg 0))))
theorem e_M_crash : y_M_crash.cls ≠ "java/lang/invoke/MethodHandle" ∧ y_M_crash.cls ≠ "java/lang/invoke/VarHandle" ∧ (parseMethodDescriptor y_M_crash.desc).map (fun d => d.parameters.length) = some 1 := by decide +kernel
set_option maxHeartbeats 4000000 in
set_option maxRecDepth 100000 in
theorem m_M_crash (l : Launch) (D : va_G) (cI cZ cB cM : ClassId) (a : Nat → Nat) (hJ : xJ 27 a) (G : Nat → Nat → Int32) (x1 : Int32) : Met l y_M_crash (Cond.code y_M_crash prog_8_method_32_code 2 (Option.some FieldType.boolean) :: wsBig) { frames := 1, cells := 0, slots := 0, locals := 20 } (xP D xcl (xty cI cZ cB cM) 27 a (kg (kM cI cZ a) G) [.ref (a 0), .int x1]) (xQi D xcl 27 a ((f_M_crash x1 G).1) (kg (kM cI cZ a) ((f_M_crash x1 G).2))) 0 0 (xA 27 a) := by
  refine X_met (by decide) rfl (Nat.le_of_ble_eq_true rfl) hJ (fun Y s m args Γ => ?_)
  show X Y s m D xcl 27 a 2 (kg (kM cI cZ a) G) 0 [(0, .ref (a 0)), (1, .int x1)] []
  have E := f_M_crash.eq_1 x1 G
  refine X_iload_n Γ d_M_crash_0 rfl 1 rfl rfl ?_
  refine X_callSi (rest := []) Γ d_M_crash_1 (m_M_isBroker l D _ _ _ _ hJ _ _ x1) w592 w593 w9 w594 e_M_isBroker ⟨by decide, by decide⟩ ⟨rfl, rfl⟩ rfl rfl (Nat.le_of_ble_eq_true rfl) rfl ?_
  refine X_if_ne (tgt := 9) Γ d_M_crash_4 (by decide) rfl (fun h4 => ?_) (fun h4 => ?_)
  · replace E := E.trans (if_neg h4)
    refine X_aload_n Γ d_M_crash_9 rfl 0 rfl rfl ?_
    refine X_get Γ d_M_crash_10 (by decide) rfl rfl in_M 15 (by decide) w495 rfl rfl rfl ?_
    refine X_iload_n Γ d_M_crash_13 rfl 1 rfl rfl ?_
    refine X_zald (v := (G 9 x1.toNatClampNeg)) Γ d_M_crash_14 (by decide) rfl 1 rfl (isBM_in h4) rfl rfl ?_
    refine X_if_ne (tgt := 20) Γ d_M_crash_15 (by decide) rfl (fun h15 => ?_) (fun h15 => ?_)
    · replace E := E.trans (if_neg h15)
      refine X_aload_n Γ d_M_crash_20 rfl 0 rfl rfl ?_
      refine X_get Γ d_M_crash_21 (by decide) rfl rfl in_M 15 (by decide) w495 rfl rfl rfl ?_
      refine X_iload_n Γ d_M_crash_24 rfl 1 rfl rfl ?_
      refine X_iconst (v := 0) Γ d_M_crash_25 (by decide) rfl ?_
      refine X_zast (kx := x1.toNatClampNeg) Γ d_M_crash_26 (by decide) rfl 1 rfl (isBM_in h4) rfl (fun _ => rfl) rfl rfl ?_
      refine X_aload_n Γ d_M_crash_27 rfl 0 rfl rfl ?_
      refine X_get Γ d_M_crash_28 (by decide) rfl rfl in_M 16 (by decide) w496 rfl rfl rfl ?_
      refine X_iload_n Γ d_M_crash_31 rfl 1 rfl rfl ?_
      refine X_iconst (v := 0) Γ d_M_crash_32 (by decide) rfl ?_
      refine X_iast (kx := x1.toNatClampNeg) Γ d_M_crash_33 (by decide) rfl 0 rfl (isBM_in h4) (fun _ => rfl) rfl rfl ?_
      refine X_aload_n Γ d_M_crash_34 rfl 0 rfl rfl ?_
      refine X_get Γ d_M_crash_35 (by decide) rfl rfl in_M 17 (by decide) w497 rfl rfl rfl ?_
      refine X_iload_n Γ d_M_crash_38 rfl 1 rfl rfl ?_
      refine X_iconst (v := (-1)) Γ d_M_crash_39 (by decide) rfl ?_
      refine X_iast (kx := x1.toNatClampNeg) Γ d_M_crash_40 (by decide) rfl 0 rfl (isBM_in h4) (fun _ => rfl) rfl rfl ?_
      refine X_aload_n Γ d_M_crash_41 rfl 0 rfl rfl ?_
      refine X_get Γ d_M_crash_42 (by decide) rfl rfl in_M 19 (by decide) w499 rfl rfl rfl ?_
      refine X_iload_n Γ d_M_crash_45 rfl 1 rfl rfl ?_
      refine X_iconst (v := 0) Γ d_M_crash_46 (by decide) rfl ?_
      refine X_zast (kx := x1.toNatClampNeg) Γ d_M_crash_47 (by decide) rfl 1 rfl (isBM_in h4) rfl (fun _ => rfl) rfl rfl ?_
      refine X_iconst (v := 1) Γ d_M_crash_48 (by decide) rfl ?_
      exact X_iretz Γ d_M_crash_49 rfl (g_r E) (g_eq E)
    · replace E := E.trans (if_pos h15)
      refine X_iconst (v := 0) Γ d_M_crash_18 (by decide) rfl ?_
      exact X_iretz Γ d_M_crash_19 rfl (g_r E) (g_eq E)
  · replace E := E.trans (if_pos h4)
    refine X_iconst (v := 0) Γ d_M_crash_7 (by decide) rfl ?_
    exact X_iretz Γ d_M_crash_8 rfl (g_r E) (g_eq E)
def f_M_restart (x1 : Int32) (G : Nat → Nat → Int32) : Int32 × (Nat → Nat → Int32) := (if ((f_M_isBroker x1)) = 0 then (0, G) else (if (G 9 x1.toNatClampNeg) = 0 then (1, (g2 G 9 x1.toNatClampNeg 1)) else (0, (g2 G 9 x1.toNatClampNeg 1))))
theorem e_M_restart : y_M_restart.cls ≠ "java/lang/invoke/MethodHandle" ∧ y_M_restart.cls ≠ "java/lang/invoke/VarHandle" ∧ (parseMethodDescriptor y_M_restart.desc).map (fun d => d.parameters.length) = some 1 := by decide +kernel
set_option maxHeartbeats 4000000 in
set_option maxRecDepth 100000 in
theorem m_M_restart (l : Launch) (D : va_G) (cI cZ cB cM : ClassId) (a : Nat → Nat) (hJ : xJ 27 a) (G : Nat → Nat → Int32) (x1 : Int32) : Met l y_M_restart (Cond.code y_M_restart prog_8_method_33_code 3 (Option.some FieldType.boolean) :: wsBig) { frames := 1, cells := 0, slots := 0, locals := 20 } (xP D xcl (xty cI cZ cB cM) 27 a (kg (kM cI cZ a) G) [.ref (a 0), .int x1]) (xQi D xcl 27 a ((f_M_restart x1 G).1) (kg (kM cI cZ a) ((f_M_restart x1 G).2))) 0 0 (xA 27 a) := by
  refine X_met (by decide) rfl (Nat.le_of_ble_eq_true rfl) hJ (fun Y s m args Γ => ?_)
  show X Y s m D xcl 27 a 3 (kg (kM cI cZ a) G) 0 [(0, .ref (a 0)), (1, .int x1)] []
  have E := f_M_restart.eq_1 x1 G
  refine X_iload_n Γ d_M_restart_0 rfl 1 rfl rfl ?_
  refine X_callSi (rest := []) Γ d_M_restart_1 (m_M_isBroker l D _ _ _ _ hJ _ _ x1) w592 w593 w9 w594 e_M_isBroker ⟨by decide, by decide⟩ ⟨rfl, rfl⟩ rfl rfl (Nat.le_of_ble_eq_true rfl) rfl ?_
  refine X_if_ne (tgt := 9) Γ d_M_restart_4 (by decide) rfl (fun h4 => ?_) (fun h4 => ?_)
  · replace E := E.trans (if_neg h4)
    refine X_aload_n Γ d_M_restart_9 rfl 0 rfl rfl ?_
    refine X_get Γ d_M_restart_10 (by decide) rfl rfl in_M 15 (by decide) w495 rfl rfl rfl ?_
    refine X_iload_n Γ d_M_restart_13 rfl 1 rfl rfl ?_
    refine X_zald (v := (G 9 x1.toNatClampNeg)) Γ d_M_restart_14 (by decide) rfl 1 rfl (isBM_in h4) rfl rfl ?_
    refine X_istore_n Γ d_M_restart_15 rfl (by decide) rfl rfl ?_
    refine X_aload_n Γ d_M_restart_16 rfl 1 rfl rfl ?_
    refine X_get Γ d_M_restart_17 (by decide) rfl rfl in_M 15 (by decide) w495 rfl rfl rfl ?_
    refine X_iload_n Γ d_M_restart_20 rfl 2 rfl rfl ?_
    refine X_iconst (v := 1) Γ d_M_restart_21 (by decide) rfl ?_
    refine X_zast (kx := x1.toNatClampNeg) Γ d_M_restart_22 (by decide) rfl 1 rfl (isBM_in h4) rfl (fun _ => rfl) rfl rfl ?_
    refine X_iload_n Γ d_M_restart_23 rfl 0 rfl rfl ?_
    refine X_if_ne (tgt := 31) Γ d_M_restart_24 (by decide) rfl (fun h24 => ?_) (fun h24 => ?_)
    · replace E := E.trans (if_neg h24)
      refine X_iconst (v := 0) Γ d_M_restart_31 (by decide) rfl ?_
      exact X_iretz Γ d_M_restart_32 rfl (g_r E) (g_eq E)
    · replace E := E.trans (if_pos h24)
      refine X_iconst (v := 1) Γ d_M_restart_27 (by decide) rfl ?_
      refine X_goto (pc' := 32) Γ d_M_restart_28 (by decide) ?_
      exact X_iretz Γ d_M_restart_32 rfl (g_r E) (g_eq E)
  · replace E := E.trans (if_pos h4)
    refine X_iconst (v := 0) Γ d_M_restart_7 (by decide) rfl ?_
    exact X_iretz Γ d_M_restart_8 rfl (g_r E) (g_eq E)
def f_M_govern_177 (x1 : Int32) (G : Nat → Nat → Int32) (k7 : Nat) (v2_7 : Int32) (v3_7 : Int32) (v4_7 : Int32) (t0_86 : Int32) (t0_144 : Int32) (t0_171 : Int32) : Nat → Int32 → (Nat → Nat → Int32) → Int32 × (Nat → Nat → Int32)
  | 0, v6_177, Gv177 => (0, Gv177)
  | k177 + 1, v6_177, Gv177 => (if 4 ≤ v6_177 then (1, (g2 Gv177 0 4 ((Gv177 0 4) + 1))) else (jn (fun (t0_214 : Int32) => (f_M_govern_177 x1 G k7 v2_7 v3_7 v4_7 t0_86 t0_144 t0_171 k177 (v6_177 + 1) (g2 Gv177 1 v6_177.toNatClampNeg t0_214))) (fun (j214 : Int32 → Int32 × (Nat → Nat → Int32)) => (if (Gv177 1 v6_177.toNatClampNeg) = 0 then (j214 0) else (if ((f_M_alive v6_177 x1 Gv177)) = 0 then (j214 0) else (j214 1))))))
def f_M_govern_7 (x1 : Int32) (G : Nat → Nat → Int32) : Nat → Int32 → Int32 → Int32 → Int32 × (Nat → Nat → Int32)
  | 0, v2_7, v3_7, v4_7 => (0, G)
  | k7 + 1, v2_7, v3_7, v4_7 => (if v4_7 < 0 then (jn (fun (t0_86 : Int32) => (if 0 ≤ v2_7 then (jn (fun (t0_144 : Int32) => (jn (jn (fun (t0_171 : Int32) => (f_M_govern_177 x1 G k7 v2_7 v3_7 v4_7 t0_86 t0_144 t0_171 5 0 (g2 G 0 5 t0_171))) (fun (j171 : Int32 → Int32 × (Nat → Nat → Int32)) => (if t0_144 = 0 then (j171 v2_7) else (j171 (G 0 5))))) (fun (j157 : Int32 × (Nat → Nat → Int32)) => (if t0_144 = 0 then j157 else (if v3_7 = 0 then (0, G) else j157))))) (fun (j144 : Int32 → Int32 × (Nat → Nat → Int32)) => (if t0_86 = 0 then (j144 0) else (if ((f_M_alive (G 0 5) x1 G)) = 0 then (j144 0) else (j144 1))))) else (if t0_86 = 0 then (t0_86, (g2 (g2 G 0 5 (-1)) 0 4 (G 0 4))) else (t0_86, (g2 (g2 G 0 5 (-1)) 0 4 ((G 0 4) + 1)))))) (fun (j86 : Int32 → Int32 × (Nat → Nat → Int32)) => (if (G 0 5) < 0 then (j86 0) else (j86 1)))) else (jn (fun (t0_42 : Int32) => (jn (fun (t0_67 : Int32) => (f_M_govern_7 x1 G k7 t0_42 t0_67 (v4_7 + (-1)))) (fun (j67 : Int32 → Int32 × (Nat → Nat → Int32)) => (if v3_7 = 0 then (if (G 1 v4_7.toNatClampNeg) = 0 then (j67 0) else (if ((f_M_alive v4_7 x1 G)) = 0 then (j67 1) else (j67 0))) else (j67 1))))) (fun (j42 : Int32 → Int32 × (Nat → Nat → Int32)) => (if (G 1 v4_7.toNatClampNeg) = 0 then (j42 v2_7) else (if ((f_M_alive v4_7 x1 G)) = 0 then (j42 v2_7) else (j42 v4_7))))))
def f_M_govern (x1 : Int32) (G : Nat → Nat → Int32) : Int32 × (Nat → Nat → Int32) := (f_M_govern_7 x1 G 5 (-1) 0 3)
theorem e_M_govern : y_M_govern.cls ≠ "java/lang/invoke/MethodHandle" ∧ y_M_govern.cls ≠ "java/lang/invoke/VarHandle" ∧ (parseMethodDescriptor y_M_govern.desc).map (fun d => d.parameters.length) = some 1 := by decide +kernel
set_option maxHeartbeats 4000000 in
set_option maxRecDepth 100000 in
theorem m_M_govern (l : Launch) (D : va_G) (cI cZ cB cM : ClassId) (a : Nat → Nat) (hJ : xJ 27 a) (G : Nat → Nat → Int32) (x1 : Int32) (hL : (G 0 5).toInt < 4) : Met l y_M_govern (Cond.code y_M_govern prog_8_method_35_code 7 (Option.some FieldType.boolean) :: wsBig) { frames := 1, cells := 0, slots := 0, locals := 22 } (xP D xcl (xty cI cZ cB cM) 27 a (kg (kM cI cZ a) G) [.ref (a 0), .int x1]) (xQi D xcl 27 a ((f_M_govern x1 G).1) (kg (kM cI cZ a) ((f_M_govern x1 G).2))) 0 0 (xA 27 a) := by
  refine X_met (by decide) rfl (Nat.le_of_ble_eq_true rfl) hJ (fun Y s m args Γ => ?_)
  show X Y s m D xcl 27 a 7 (kg (kM cI cZ a) G) 0 [(0, .ref (a 0)), (1, .int x1)] []
  have E := f_M_govern.eq_1 x1 G
  refine X_iconst (v := (-1)) Γ d_M_govern_0 (by decide) rfl ?_
  refine X_istore_n Γ d_M_govern_1 rfl (by decide) rfl rfl ?_
  refine X_iconst (v := 0) Γ d_M_govern_2 (by decide) rfl ?_
  refine X_istore_n Γ d_M_govern_3 rfl (by decide) rfl rfl ?_
  refine X_iconst (v := 3) Γ d_M_govern_4 (by decide) rfl ?_
  refine X_istore Γ d_M_govern_5 (by decide) rfl rfl ?_
  have J7 : ∀ (k7 : Nat) (v2_7 : Int32) (v3_7 : Int32) (v4_7 : Int32), (0 < k7 ∧ k7 ≤ 5 ∧ v4_7 = nI (k7 - 1) - 1) → f_M_govern x1 G = f_M_govern_7 x1 G k7 v2_7 v3_7 v4_7 → X Y s m D xcl 27 a 7 (kg (kM cI cZ a) G) 7 [(0, .ref (a 0)), (1, .int x1), (2, .int v2_7), (3, .int v3_7), (4, .int v4_7)] [] := by
    intro k7
    induction k7 with
    | zero => exact fun v2_7 v3_7 v4_7 hI7 _ => absurd hI7 (fun h => Nat.lt_irrefl 0 h.1)
    | succ k7 ih7 =>
      intro v2_7 v3_7 v4_7 hI7 E
      rw [f_M_govern_7] at E
      refine X_iload Γ d_M_govern_7 4 rfl rfl ?_
      refine X_if_lt (tgt := 74) Γ d_M_govern_9 (by decide) rfl (fun h9 => ?_) (fun h9 => ?_)
      · replace E := E.trans (if_pos h9)
        refine X_aload_n Γ d_M_govern_74 rfl 0 rfl rfl ?_
        refine X_get Γ d_M_govern_75 (by decide) rfl rfl in_M 5 (by decide) w485 rfl rfl rfl ?_
        refine jn_open E (fun j86 ej86 E => ?_)
        have J86 : ∀ (t0_86 : Int32), (t0_86 = 0 ∨ (t0_86 = 1 ∧ 0 ≤ (G 0 5).toInt)) → f_M_govern x1 G = j86 t0_86 → X Y s m D xcl 27 a 7 (kg (kM cI cZ a) G) 86 [(0, .ref (a 0)), (1, .int x1), (2, .int v2_7), (3, .int v3_7), (4, .int v4_7)] [.int t0_86] := by
          intro t0_86 hI86 E
          rw [ej86] at E
          refine X_istore Γ d_M_govern_86 (by decide) rfl rfl ?_
          refine X_iload_n Γ d_M_govern_88 rfl 3 rfl rfl ?_
          refine X_if_ge (tgt := 122) Γ d_M_govern_89 (by decide) rfl (fun h89 => ?_) (fun h89 => ?_)
          · replace E := E.trans (if_pos h89)
            refine X_iload Γ d_M_govern_122 0 rfl rfl ?_
            refine jn_open E (fun j144 ej144 E => ?_)
            have J144 : ∀ (t0_144 : Int32), (True) → f_M_govern x1 G = j144 t0_144 → X Y s m D xcl 27 a 7 (kg (kM cI cZ a) G) 144 [(0, .ref (a 0)), (1, .int x1), (2, .int v2_7), (3, .int v3_7), (4, .int t0_86)] [.int t0_144] := by
              intro t0_144 hI144 E
              rw [ej144] at E
              refine X_istore Γ d_M_govern_144 (by decide) rfl rfl ?_
              refine X_iload Γ d_M_govern_146 0 rfl rfl ?_
              refine jn_open E (fun j157 ej157 E => ?_)
              have J157 : (True) → f_M_govern x1 G = j157  → X Y s m D xcl 27 a 7 (kg (kM cI cZ a) G) 157 [(0, .ref (a 0)), (1, .int x1), (2, .int v2_7), (3, .int v3_7), (4, .int t0_86), (5, .int t0_144)] [] := by
                intro  hI157 E
                rw [ej157] at E
                refine X_aload_n Γ d_M_govern_157 rfl 0 rfl rfl ?_
                refine X_iload Γ d_M_govern_158 5 rfl rfl ?_
                refine jn_open E (fun j171 ej171 E => ?_)
                have J171 : ∀ (t0_171 : Int32), (True) → f_M_govern x1 G = j171 t0_171 → X Y s m D xcl 27 a 7 (kg (kM cI cZ a) G) 171 [(0, .ref (a 0)), (1, .int x1), (2, .int v2_7), (3, .int v3_7), (4, .int t0_86), (5, .int t0_144)] [.int t0_171, .ref (a 0)] := by
                  intro t0_171 hI171 E
                  rw [ej171] at E
                  refine X_put (ty := .int) Γ d_M_govern_171 (by decide) rfl rfl in_M 5 (by decide) w485 rfl ty_M ty_M_ok nm_M rfl (by decide +kernel) rfl rfl (Nat.le_of_ble_eq_true rfl) kp_M_5 rfl ?_
                  refine X_iconst (v := 0) Γ d_M_govern_174 (by decide) rfl ?_
                  refine X_istore Γ d_M_govern_175 (by decide) rfl rfl ?_
                  have J177 : ∀ (k177 : Nat) (v6_177 : Int32) (Gv177 : Nat → Nat → Int32), (0 < k177 ∧ k177 ≤ 5 ∧ v6_177 = nI (5 - k177)) → f_M_govern x1 G = f_M_govern_177 x1 G k7 v2_7 v3_7 v4_7 t0_86 t0_144 t0_171 k177 v6_177 Gv177 → X Y s m D xcl 27 a 7 (kg (kM cI cZ a) Gv177) 177 [(0, .ref (a 0)), (1, .int x1), (2, .int v2_7), (3, .int v3_7), (4, .int t0_86), (5, .int t0_144), (6, .int v6_177)] [] := by
                    intro k177
                    induction k177 with
                    | zero => exact fun v6_177 Gv177 hI177 _ => absurd hI177 (fun h => Nat.lt_irrefl 0 h.1)
                    | succ k177 ih177 =>
                      intro v6_177 Gv177 hI177 E
                      rw [f_M_govern_177] at E
                      refine X_iload Γ d_M_govern_177 6 rfl rfl ?_
                      refine X_iconst (v := 4) Γ d_M_govern_179 (by decide) rfl ?_
                      refine X_icmp_ge (tgt := 221) Γ d_M_govern_180 (by decide) rfl (fun h180 => ?_) (fun h180 => ?_)
                      · replace E := E.trans (if_pos h180)
                        refine X_aload_n Γ d_M_govern_221 rfl 0 rfl rfl ?_
                        refine X_dup Γ d_M_govern_222 rfl rfl ?_
                        refine X_get Γ d_M_govern_223 (by decide) rfl rfl in_M 4 (by decide) w484 rfl rfl rfl ?_
                        refine X_iconst (v := 1) Γ d_M_govern_226 (by decide) rfl ?_
                        refine X_iadd Γ d_M_govern_227 rfl ?_
                        refine X_put (ty := .int) Γ d_M_govern_228 (by decide) rfl rfl in_M 4 (by decide) w484 rfl ty_M ty_M_ok nm_M rfl (by decide +kernel) rfl rfl (Nat.le_of_ble_eq_true rfl) kp_M_4 rfl ?_
                        refine X_iconst (v := 1) Γ d_M_govern_231 (by decide) rfl ?_
                        exact X_iretz Γ d_M_govern_232 rfl (g_r E) (g_eq E)
                      · replace E := E.trans (if_neg h180)
                        refine X_aload_n Γ d_M_govern_183 rfl 0 rfl rfl ?_
                        refine X_get Γ d_M_govern_184 (by decide) rfl rfl in_M 6 (by decide) w486 rfl rfl rfl ?_
                        refine X_iload Γ d_M_govern_187 6 rfl rfl ?_
                        refine X_aload_n Γ d_M_govern_189 rfl 0 rfl rfl ?_
                        refine X_get Γ d_M_govern_190 (by decide) rfl rfl in_M 6 (by decide) w486 rfl rfl rfl ?_
                        refine X_iload Γ d_M_govern_193 6 rfl rfl ?_
                        refine X_zald (v := (Gv177 1 v6_177.toNatClampNeg)) Γ d_M_govern_195 (by decide) rfl 1 rfl (lc_in (by decide) (by decide) hI177.2.1 hI177.2.2 h180) rfl rfl ?_
                        refine jn_open E (fun j214 ej214 E => ?_)
                        have J214 : ∀ (t0_214 : Int32), (zb t0_214) → f_M_govern x1 G = j214 t0_214 → X Y s m D xcl 27 a 7 (kg (kM cI cZ a) Gv177) 214 [(0, .ref (a 0)), (1, .int x1), (2, .int v2_7), (3, .int v3_7), (4, .int t0_86), (5, .int t0_144), (6, .int v6_177)] [.int t0_214, .int v6_177, .ref (a 1)] := by
                          intro t0_214 hI214 E
                          rw [ej214] at E
                          refine X_zast (kx := v6_177.toNatClampNeg) Γ d_M_govern_214 (by decide) rfl 1 rfl (lc_in (by decide) (by decide) hI177.2.1 hI177.2.2 h180) (zb_nar hI214) (fun _ => rfl) rfl rfl ?_
                          refine X_iinc (v := (v6_177 + 1)) Γ d_M_govern_215 6 rfl rfl (by decide) rfl rfl ?_
                          refine X_goto (pc' := 177) Γ d_M_govern_218 (by decide) ?_
                          refine X_loc [1, 2, 3, 4, 5, 6, 0] rfl ?_
                          exact ih177 (v6_177 + 1) (g2 Gv177 1 v6_177.toNatClampNeg t0_214) (lc_step (by decide) (by decide) hI177.1 hI177.2.1 hI177.2.2 h180) E
                        refine X_if_eq (tgt := 213) Γ d_M_govern_196 (by decide) rfl (fun h196 => ?_) (fun h196 => ?_)
                        · replace E := E.trans (if_pos h196)
                          refine X_iconst (v := 0) Γ d_M_govern_213 (by decide) rfl ?_
                          refine X_loc [0, 1, 2, 3, 4, 5, 6] rfl ?_
                          exact J214 0 (Or.inl rfl) E
                        · replace E := E.trans (if_neg h196)
                          refine X_aload_n Γ d_M_govern_199 rfl 0 rfl rfl ?_
                          refine X_iload Γ d_M_govern_200 6 rfl rfl ?_
                          refine X_iload_n Γ d_M_govern_202 rfl 1 rfl rfl ?_
                          refine X_callVi (rest := [.int v6_177, .ref (a 1)]) Γ d_M_govern_203 (m_M_alive l D cI cZ cB cM a hJ Gv177 v6_177 x1 (lc_in (by decide) (by decide) hI177.2.1 hI177.2.2 h180)) (by decide) rfl rfl rfl w712 w714 s_M_alive w9 w715 e_M_alive ⟨by decide, by decide⟩ ⟨rfl, rfl⟩ rfl rfl (Nat.le_of_ble_eq_true rfl) rfl ?_
                          refine X_if_eq (tgt := 213) Γ d_M_govern_206 (by decide) rfl (fun h206 => ?_) (fun h206 => ?_)
                          · replace E := E.trans (if_pos h206)
                            refine X_iconst (v := 0) Γ d_M_govern_213 (by decide) rfl ?_
                            refine X_loc [0, 1, 2, 3, 4, 5, 6] rfl ?_
                            exact J214 0 (Or.inl rfl) E
                          · replace E := E.trans (if_neg h206)
                            refine X_iconst (v := 1) Γ d_M_govern_209 (by decide) rfl ?_
                            refine X_goto (pc' := 214) Γ d_M_govern_210 (by decide) ?_
                            refine X_loc [0, 1, 2, 3, 4, 5, 6] rfl ?_
                            exact J214 1 (Or.inr rfl) E
                  refine X_loc [1, 2, 3, 4, 5, 6, 0] rfl ?_
                  exact J177 5 0 (g2 G 0 5 t0_171) (⟨by decide, by decide, by decide⟩) E
                refine X_if_eq (tgt := 170) Γ d_M_govern_160 (by decide) rfl (fun h160 => ?_) (fun h160 => ?_)
                · replace E := E.trans (if_pos h160)
                  refine X_iload_n Γ d_M_govern_170 rfl 2 rfl rfl ?_
                  refine X_loc [0, 1, 2, 3, 4, 5] rfl ?_
                  exact J171 v2_7 trivial E
                · replace E := E.trans (if_neg h160)
                  refine X_aload_n Γ d_M_govern_163 rfl 0 rfl rfl ?_
                  refine X_get Γ d_M_govern_164 (by decide) rfl rfl in_M 5 (by decide) w485 rfl rfl rfl ?_
                  refine X_goto (pc' := 171) Γ d_M_govern_167 (by decide) ?_
                  refine X_loc [0, 1, 2, 3, 4, 5] rfl ?_
                  exact J171 (G 0 5) trivial E
              refine X_if_eq (tgt := 157) Γ d_M_govern_148 (by decide) rfl (fun h148 => ?_) (fun h148 => ?_)
              · replace E := E.trans (if_pos h148)
                refine X_loc [1, 2, 3, 4, 5, 0] rfl ?_
                exact J157  trivial E
              · replace E := E.trans (if_neg h148)
                refine X_iload_n Γ d_M_govern_151 rfl 4 rfl rfl ?_
                refine X_if_ne (tgt := 157) Γ d_M_govern_152 (by decide) rfl (fun h152 => ?_) (fun h152 => ?_)
                · replace E := E.trans (if_neg h152)
                  refine X_loc [1, 2, 3, 4, 5, 0] rfl ?_
                  exact J157  trivial E
                · replace E := E.trans (if_pos h152)
                  refine X_iconst (v := 0) Γ d_M_govern_155 (by decide) rfl ?_
                  exact X_iretz Γ d_M_govern_156 rfl (g_r E) (g_eq E)
            refine X_if_eq (tgt := 143) Γ d_M_govern_124 (by decide) rfl (fun h124 => ?_) (fun h124 => ?_)
            · replace E := E.trans (if_pos h124)
              refine X_iconst (v := 0) Γ d_M_govern_143 (by decide) rfl ?_
              refine X_loc [1, 2, 3, 4, 0] rfl ?_
              exact J144 0 trivial E
            · replace E := E.trans (if_neg h124)
              refine X_aload_n Γ d_M_govern_127 rfl 1 rfl rfl ?_
              refine X_aload_n Γ d_M_govern_128 rfl 1 rfl rfl ?_
              refine X_get Γ d_M_govern_129 (by decide) rfl rfl in_M 5 (by decide) w485 rfl rfl rfl ?_
              refine X_iload_n Γ d_M_govern_132 rfl 2 rfl rfl ?_
              refine X_callVi (rest := []) Γ d_M_govern_133 (m_M_alive l D cI cZ cB cM a hJ G (G 0 5) x1 (gv_in hL hI86 h124)) (by decide) rfl rfl rfl w712 w714 s_M_alive w9 w715 e_M_alive ⟨by decide, by decide⟩ ⟨rfl, rfl⟩ rfl rfl (Nat.le_of_ble_eq_true rfl) rfl ?_
              refine X_if_eq (tgt := 143) Γ d_M_govern_136 (by decide) rfl (fun h136 => ?_) (fun h136 => ?_)
              · replace E := E.trans (if_pos h136)
                refine X_iconst (v := 0) Γ d_M_govern_143 (by decide) rfl ?_
                refine X_loc [1, 2, 3, 4, 0] rfl ?_
                exact J144 0 trivial E
              · replace E := E.trans (if_neg h136)
                refine X_iconst (v := 1) Γ d_M_govern_139 (by decide) rfl ?_
                refine X_goto (pc' := 144) Γ d_M_govern_140 (by decide) ?_
                refine X_loc [1, 2, 3, 4, 0] rfl ?_
                exact J144 1 trivial E
          · replace E := E.trans (if_neg h89)
            refine X_aload_n Γ d_M_govern_92 rfl 1 rfl rfl ?_
            refine X_iconst (v := (-1)) Γ d_M_govern_93 (by decide) rfl ?_
            refine X_put (ty := .int) Γ d_M_govern_94 (by decide) rfl rfl in_M 5 (by decide) w485 rfl ty_M ty_M_ok nm_M rfl (by decide +kernel) rfl rfl (Nat.le_of_ble_eq_true rfl) kp_M_5 rfl ?_
            refine X_aload_n Γ d_M_govern_97 rfl 1 rfl rfl ?_
            refine X_iload Γ d_M_govern_98 0 rfl rfl ?_
            refine X_if_eq (tgt := 112) Γ d_M_govern_100 (by decide) rfl (fun h100 => ?_) (fun h100 => ?_)
            · replace E := E.trans (if_pos h100)
              refine X_aload_n Γ d_M_govern_112 rfl 1 rfl rfl ?_
              refine X_get (v := .int (G 0 4)) Γ d_M_govern_113 (by decide) rfl rfl in_M 4 (by decide) w484 rfl rfl rfl ?_
              refine X_put (ty := .int) Γ d_M_govern_116 (by decide) rfl rfl in_M 4 (by decide) w484 rfl ty_M ty_M_ok nm_M rfl (by decide +kernel) rfl rfl (Nat.le_of_ble_eq_true rfl) kp_M_4 rfl ?_
              refine X_iload Γ d_M_govern_119 0 rfl rfl ?_
              exact X_iretz Γ d_M_govern_121 (gv_nar hI86) (g_r E) (g_eq E)
            · replace E := E.trans (if_neg h100)
              refine X_aload_n Γ d_M_govern_103 rfl 1 rfl rfl ?_
              refine X_get (v := .int (G 0 4)) Γ d_M_govern_104 (by decide) rfl rfl in_M 4 (by decide) w484 rfl rfl rfl ?_
              refine X_iconst (v := 1) Γ d_M_govern_107 (by decide) rfl ?_
              refine X_iadd Γ d_M_govern_108 rfl ?_
              refine X_goto (pc' := 116) Γ d_M_govern_109 (by decide) ?_
              refine X_put (ty := .int) Γ d_M_govern_116 (by decide) rfl rfl in_M 4 (by decide) w484 rfl ty_M ty_M_ok nm_M rfl (by decide +kernel) rfl rfl (Nat.le_of_ble_eq_true rfl) kp_M_4 rfl ?_
              refine X_iload Γ d_M_govern_119 0 rfl rfl ?_
              exact X_iretz Γ d_M_govern_121 (gv_nar hI86) (g_r E) (g_eq E)
        refine X_if_lt (tgt := 85) Γ d_M_govern_78 (by decide) rfl (fun h78 => ?_) (fun h78 => ?_)
        · replace E := E.trans (if_pos h78)
          refine X_iconst (v := 0) Γ d_M_govern_85 (by decide) rfl ?_
          refine X_loc [0, 1, 2, 3, 4] rfl ?_
          exact J86 0 (Or.inl rfl) E
        · replace E := E.trans (if_neg h78)
          refine X_iconst (v := 1) Γ d_M_govern_81 (by decide) rfl ?_
          refine X_goto (pc' := 86) Γ d_M_govern_82 (by decide) ?_
          refine X_loc [0, 1, 2, 3, 4] rfl ?_
          exact J86 1 (Or.inr ⟨rfl, lt0 h78⟩) E
      · replace E := E.trans (if_neg h9)
        refine X_aload_n Γ d_M_govern_12 rfl 0 rfl rfl ?_
        refine X_iload Γ d_M_govern_13 4 rfl rfl ?_
        refine X_iload_n Γ d_M_govern_15 rfl 1 rfl rfl ?_
        refine X_callVi (rest := []) Γ d_M_govern_16 (m_M_alive l D cI cZ cB cM a hJ G v4_7 x1 (ld_in (by decide) (by decide) hI7.2.1 hI7.2.2 h9)) (by decide) rfl rfl rfl w712 w714 s_M_alive w9 w715 e_M_alive ⟨by decide, by decide⟩ ⟨rfl, rfl⟩ rfl rfl (Nat.le_of_ble_eq_true rfl) rfl ?_
        refine X_istore Γ d_M_govern_19 (by decide) rfl rfl ?_
        refine X_aload_n Γ d_M_govern_21 rfl 1 rfl rfl ?_
        refine X_get Γ d_M_govern_22 (by decide) rfl rfl in_M 6 (by decide) w486 rfl rfl rfl ?_
        refine X_iload Γ d_M_govern_25 5 rfl rfl ?_
        refine X_zald (v := (G 1 v4_7.toNatClampNeg)) Γ d_M_govern_27 (by decide) rfl 1 rfl (ld_in (by decide) (by decide) hI7.2.1 hI7.2.2 h9) rfl rfl ?_
        refine jn_open E (fun j42 ej42 E => ?_)
        have J42 : ∀ (t0_42 : Int32), (True) → f_M_govern x1 G = j42 t0_42 → X Y s m D xcl 27 a 7 (kg (kM cI cZ a) G) 42 [(0, .ref (a 0)), (1, .int x1), (2, .int v2_7), (3, .int v3_7), (4, .int v4_7), (5, .int ((f_M_alive v4_7 x1 G)))] [.int t0_42] := by
          intro t0_42 hI42 E
          rw [ej42] at E
          refine X_istore_n Γ d_M_govern_42 rfl (by decide) rfl rfl ?_
          refine X_iload_n Γ d_M_govern_43 rfl 3 rfl rfl ?_
          refine jn_open E (fun j67 ej67 E => ?_)
          have J67 : ∀ (t0_67 : Int32), (True) → f_M_govern x1 G = j67 t0_67 → X Y s m D xcl 27 a 7 (kg (kM cI cZ a) G) 67 [(0, .ref (a 0)), (1, .int x1), (2, .int t0_42), (3, .int v3_7), (4, .int v4_7), (5, .int ((f_M_alive v4_7 x1 G)))] [.int t0_67] := by
            intro t0_67 hI67 E
            rw [ej67] at E
            refine X_istore_n Γ d_M_govern_67 rfl (by decide) rfl rfl ?_
            refine X_iinc (v := (v4_7 + (-1))) Γ d_M_govern_68 4 rfl rfl (by decide) rfl rfl ?_
            refine X_goto (pc' := 7) Γ d_M_govern_71 (by decide) ?_
            refine X_loc [2, 3, 4, 1, 0] rfl ?_
            exact ih7 t0_42 t0_67 (v4_7 + (-1)) (ld_step (by decide) (by decide) hI7.1 hI7.2.1 hI7.2.2 h9) E
          refine X_if_ne (tgt := 62) Γ d_M_govern_44 (by decide) rfl (fun h44 => ?_) (fun h44 => ?_)
          · replace E := E.trans (if_neg h44)
            refine X_iconst (v := 1) Γ d_M_govern_62 (by decide) rfl ?_
            refine X_goto (pc' := 67) Γ d_M_govern_63 (by decide) ?_
            refine X_loc [1, 2, 0, 3, 4, 5] rfl ?_
            exact J67 1 trivial E
          · replace E := E.trans (if_pos h44)
            refine X_aload_n Γ d_M_govern_47 rfl 1 rfl rfl ?_
            refine X_get Γ d_M_govern_48 (by decide) rfl rfl in_M 6 (by decide) w486 rfl rfl rfl ?_
            refine X_iload Γ d_M_govern_51 4 rfl rfl ?_
            refine X_zald (v := (G 1 v4_7.toNatClampNeg)) Γ d_M_govern_53 (by decide) rfl 1 rfl (ld_in (by decide) (by decide) hI7.2.1 hI7.2.2 h9) rfl rfl ?_
            refine X_if_eq (tgt := 66) Γ d_M_govern_54 (by decide) rfl (fun h54 => ?_) (fun h54 => ?_)
            · replace E := E.trans (if_pos h54)
              refine X_iconst (v := 0) Γ d_M_govern_66 (by decide) rfl ?_
              refine X_loc [1, 2, 0, 3, 4, 5] rfl ?_
              exact J67 0 trivial E
            · replace E := E.trans (if_neg h54)
              refine X_iload Γ d_M_govern_57 5 rfl rfl ?_
              refine X_if_ne (tgt := 66) Γ d_M_govern_59 (by decide) rfl (fun h59 => ?_) (fun h59 => ?_)
              · replace E := E.trans (if_neg h59)
                refine X_iconst (v := 0) Γ d_M_govern_66 (by decide) rfl ?_
                refine X_loc [1, 2, 0, 3, 4, 5] rfl ?_
                exact J67 0 trivial E
              · replace E := E.trans (if_pos h59)
                refine X_iconst (v := 1) Γ d_M_govern_62 (by decide) rfl ?_
                refine X_goto (pc' := 67) Γ d_M_govern_63 (by decide) ?_
                refine X_loc [1, 2, 0, 3, 4, 5] rfl ?_
                exact J67 1 trivial E
        refine X_if_eq (tgt := 41) Γ d_M_govern_28 (by decide) rfl (fun h28 => ?_) (fun h28 => ?_)
        · replace E := E.trans (if_pos h28)
          refine X_iload_n Γ d_M_govern_41 rfl 3 rfl rfl ?_
          refine X_loc [1, 2, 3, 4, 5, 0] rfl ?_
          exact J42 v2_7 trivial E
        · replace E := E.trans (if_neg h28)
          refine X_iload Γ d_M_govern_31 0 rfl rfl ?_
          refine X_if_eq (tgt := 41) Γ d_M_govern_33 (by decide) rfl (fun h33 => ?_) (fun h33 => ?_)
          · replace E := E.trans (if_pos h33)
            refine X_iload_n Γ d_M_govern_41 rfl 3 rfl rfl ?_
            refine X_loc [1, 2, 3, 4, 5, 0] rfl ?_
            exact J42 v2_7 trivial E
          · replace E := E.trans (if_neg h33)
            refine X_iload Γ d_M_govern_36 5 rfl rfl ?_
            refine X_goto (pc' := 42) Γ d_M_govern_38 (by decide) ?_
            refine X_loc [1, 2, 3, 4, 5, 0] rfl ?_
            exact J42 v4_7 trivial E
  refine X_loc [3, 4, 2, 1, 0] rfl ?_
  exact J7 5 (-1) 0 3 (⟨by decide, by decide, by decide⟩) E
def f_M_tick (x1 : Int32) (G : Nat → Nat → Int32) : Int32 × (Nat → Nat → Int32) := (if x1 < 0 then (0, G) else (if x1 ≤ 50 then (1, (g2 G 0 3 ((G 0 3) + x1))) else (0, G)))
theorem e_M_tick : y_M_tick.cls ≠ "java/lang/invoke/MethodHandle" ∧ y_M_tick.cls ≠ "java/lang/invoke/VarHandle" ∧ (parseMethodDescriptor y_M_tick.desc).map (fun d => d.parameters.length) = some 1 := by decide +kernel
set_option maxHeartbeats 4000000 in
set_option maxRecDepth 100000 in
theorem m_M_tick (l : Launch) (D : va_G) (cI cZ cB cM : ClassId) (a : Nat → Nat) (hJ : xJ 27 a) (G : Nat → Nat → Int32) (x1 : Int32) : Met l y_M_tick (Cond.code y_M_tick prog_8_method_36_code 2 (Option.some FieldType.boolean) :: wsBig) { frames := 0, cells := 0, slots := 0, locals := 0 } (xP D xcl (xty cI cZ cB cM) 27 a (kg (kM cI cZ a) G) [.ref (a 0), .int x1]) (xQi D xcl 27 a ((f_M_tick x1 G).1) (kg (kM cI cZ a) ((f_M_tick x1 G).2))) 0 0 (xA 27 a) := by
  refine X_met (by decide) rfl (Nat.le_of_ble_eq_true rfl) hJ (fun Y s m args Γ => ?_)
  show X Y s m D xcl 27 a 2 (kg (kM cI cZ a) G) 0 [(0, .ref (a 0)), (1, .int x1)] []
  have E := f_M_tick.eq_1 x1 G
  refine X_iload_n Γ d_M_tick_0 rfl 1 rfl rfl ?_
  refine X_if_lt (tgt := 10) Γ d_M_tick_1 (by decide) rfl (fun h1 => ?_) (fun h1 => ?_)
  · replace E := E.trans (if_pos h1)
    refine X_iconst (v := 0) Γ d_M_tick_10 (by decide) rfl ?_
    exact X_iretz Γ d_M_tick_11 rfl (g_r E) (g_eq E)
  · replace E := E.trans (if_neg h1)
    refine X_iload_n Γ d_M_tick_4 rfl 1 rfl rfl ?_
    refine X_bipush (v := 50) Γ d_M_tick_5 (by decide) rfl ?_
    refine X_icmp_le (tgt := 12) Γ d_M_tick_7 (by decide) rfl (fun h7 => ?_) (fun h7 => ?_)
    · replace E := E.trans (if_pos h7)
      refine X_aload_n Γ d_M_tick_12 rfl 0 rfl rfl ?_
      refine X_dup Γ d_M_tick_13 rfl rfl ?_
      refine X_get Γ d_M_tick_14 (by decide) rfl rfl in_M 3 (by decide) w483 rfl rfl rfl ?_
      refine X_iload_n Γ d_M_tick_17 rfl 1 rfl rfl ?_
      refine X_iadd Γ d_M_tick_18 rfl ?_
      refine X_put (ty := .int) Γ d_M_tick_19 (by decide) rfl rfl in_M 3 (by decide) w483 rfl ty_M ty_M_ok nm_M rfl (by decide +kernel) rfl rfl (Nat.le_of_ble_eq_true rfl) kp_M_3 rfl ?_
      refine X_iconst (v := 1) Γ d_M_tick_22 (by decide) rfl ?_
      exact X_iretz Γ d_M_tick_23 rfl (g_r E) (g_eq E)
    · replace E := E.trans (if_neg h7)
      refine X_iconst (v := 0) Γ d_M_tick_10 (by decide) rfl ?_
      exact X_iretz Γ d_M_tick_11 rfl (g_r E) (g_eq E)
def f_M_controller (x1 : Int32) (G : Nat → Nat → Int32) : Int32 := (if x1 = 0 then (G 0 4) else (if x1 = 1 then (G 0 5) else (if x1 = 2 then ((f_M_bits 1 0 G)) else (-1))))
theorem e_M_controller : y_M_controller.cls ≠ "java/lang/invoke/MethodHandle" ∧ y_M_controller.cls ≠ "java/lang/invoke/VarHandle" ∧ (parseMethodDescriptor y_M_controller.desc).map (fun d => d.parameters.length) = some 1 := by decide +kernel
set_option maxHeartbeats 4000000 in
set_option maxRecDepth 100000 in
theorem m_M_controller (l : Launch) (D : va_G) (cI cZ cB cM : ClassId) (a : Nat → Nat) (hJ : xJ 27 a) (G : Nat → Nat → Int32) (x1 : Int32) : Met l y_M_controller (Cond.code y_M_controller prog_8_method_37_code 2 (Option.some FieldType.int) :: wsBig) { frames := 1, cells := 0, slots := 0, locals := 25 } (xP D xcl (xty cI cZ cB cM) 27 a (kg (kM cI cZ a) G) [.ref (a 0), .int x1]) (xQi D xcl 27 a (f_M_controller x1 G) (kg (kM cI cZ a) G)) 0 0 (xA 27 a) := by
  refine X_met (by decide) rfl (Nat.le_of_ble_eq_true rfl) hJ (fun Y s m args Γ => ?_)
  show X Y s m D xcl 27 a 2 (kg (kM cI cZ a) G) 0 [(0, .ref (a 0)), (1, .int x1)] []
  have E := f_M_controller.eq_1 x1 G
  refine X_iload_n Γ d_M_controller_0 rfl 1 rfl rfl ?_
  refine X_if_ne (tgt := 11) Γ d_M_controller_1 (by decide) rfl (fun h1 => ?_) (fun h1 => ?_)
  · replace E := E.trans (if_neg h1)
    refine X_iload_n Γ d_M_controller_11 rfl 1 rfl rfl ?_
    refine X_iconst (v := 1) Γ d_M_controller_12 (by decide) rfl ?_
    refine X_icmp_ne (tgt := 23) Γ d_M_controller_13 (by decide) rfl (fun h13 => ?_) (fun h13 => ?_)
    · replace E := E.trans (if_neg h13)
      refine X_iload_n Γ d_M_controller_23 rfl 1 rfl rfl ?_
      refine X_iconst (v := 2) Γ d_M_controller_24 (by decide) rfl ?_
      refine X_icmp_ne (tgt := 37) Γ d_M_controller_25 (by decide) rfl (fun h25 => ?_) (fun h25 => ?_)
      · replace E := E.trans (if_neg h25)
        refine X_iconst (v := (-1)) Γ d_M_controller_37 (by decide) rfl ?_
        exact X_ireti Γ d_M_controller_38 E.symm rfl
      · replace E := E.trans (if_pos h25)
        refine X_aload_n Γ d_M_controller_28 rfl 0 rfl rfl ?_
        refine X_iconst (v := 1) Γ d_M_controller_29 (by decide) rfl ?_
        refine X_iconst (v := 0) Γ d_M_controller_30 (by decide) rfl ?_
        refine X_callVi (rest := []) Γ d_M_controller_31 (m_M_bits l D cI cZ cB cM a hJ G 1 0 in0_4) (by decide) rfl rfl rfl w692 w694 s_M_bits w9 w695 e_M_bits ⟨by decide, by decide⟩ ⟨rfl, rfl⟩ rfl rfl (Nat.le_of_ble_eq_true rfl) rfl ?_
        refine X_goto (pc' := 38) Γ d_M_controller_34 (by decide) ?_
        exact X_ireti Γ d_M_controller_38 E.symm rfl
    · replace E := E.trans (if_pos h13)
      refine X_aload_n Γ d_M_controller_16 rfl 0 rfl rfl ?_
      refine X_get Γ d_M_controller_17 (by decide) rfl rfl in_M 5 (by decide) w485 rfl rfl rfl ?_
      refine X_goto (pc' := 38) Γ d_M_controller_20 (by decide) ?_
      exact X_ireti Γ d_M_controller_38 E.symm rfl
  · replace E := E.trans (if_pos h1)
    refine X_aload_n Γ d_M_controller_4 rfl 0 rfl rfl ?_
    refine X_get Γ d_M_controller_5 (by decide) rfl rfl in_M 4 (by decide) w484 rfl rfl rfl ?_
    refine X_goto (pc' := 38) Γ d_M_controller_8 (by decide) ?_
    exact X_ireti Γ d_M_controller_38 E.symm rfl
def f_M_broker (x1 : Int32) (x2 : Int32) (G : Nat → Nat → Int32) : Int32 := (if ((f_M_isBroker x1)) = 0 then (-1) else (if x2 = 0 then (if (G 9 x1.toNatClampNeg) = 0 then 0 else 1) else (if x2 = 1 then (G 10 x1.toNatClampNeg) else (if x2 = 2 then (G 11 x1.toNatClampNeg) else (if x2 = 3 then (if ((f_M_leads x1 G)) = 0 then 0 else ((f_M_bits 0 x1 G))) else (if x2 = 4 then (G 3 (G 7 x1.toNatClampNeg).toNatClampNeg) else (if x2 = 5 then (G 8 x1.toNatClampNeg) else (if x2 = 6 then (G 12 x1.toNatClampNeg) else (-1)))))))))
theorem e_M_broker : y_M_broker.cls ≠ "java/lang/invoke/MethodHandle" ∧ y_M_broker.cls ≠ "java/lang/invoke/VarHandle" ∧ (parseMethodDescriptor y_M_broker.desc).map (fun d => d.parameters.length) = some 2 := by decide +kernel
set_option maxHeartbeats 4000000 in
set_option maxRecDepth 100000 in
theorem m_M_broker (l : Launch) (D : va_G) (cI cZ cB cM : ClassId) (a : Nat → Nat) (hJ : xJ 27 a) (G : Nat → Nat → Int32) (x1 : Int32) (x2 : Int32) (hT : okT G) : Met l y_M_broker (Cond.code y_M_broker prog_8_method_38_code 3 (Option.some FieldType.int) :: wsBig) { frames := 2, cells := 0, slots := 0, locals := 41 } (xP D xcl (xty cI cZ cB cM) 27 a (kg (kM cI cZ a) G) [.ref (a 0), .int x1, .int x2]) (xQi D xcl 27 a (f_M_broker x1 x2 G) (kg (kM cI cZ a) G)) 0 0 (xA 27 a) := by
  refine X_met (by decide) rfl (Nat.le_of_ble_eq_true rfl) hJ (fun Y s m args Γ => ?_)
  show X Y s m D xcl 27 a 3 (kg (kM cI cZ a) G) 0 [(0, .ref (a 0)), (1, .int x1), (2, .int x2)] []
  have E := f_M_broker.eq_1 x1 x2 G
  refine X_iload_n Γ d_M_broker_0 rfl 1 rfl rfl ?_
  refine X_callSi (rest := []) Γ d_M_broker_1 (m_M_isBroker l D _ _ _ _ hJ _ _ x1) w592 w593 w9 w594 e_M_isBroker ⟨by decide, by decide⟩ ⟨rfl, rfl⟩ rfl rfl (Nat.le_of_ble_eq_true rfl) rfl ?_
  refine X_if_ne (tgt := 9) Γ d_M_broker_4 (by decide) rfl (fun h4 => ?_) (fun h4 => ?_)
  · replace E := E.trans (if_neg h4)
    refine X_iload_n Γ d_M_broker_9 rfl 2 rfl rfl ?_
    by_cases h10_0 : x2 = 0
    · replace E := E.trans (if_pos h10_0)
      refine X_tableIn (pc' := 52) (off := 42) Γ d_M_broker_10 h10_0 (by decide) (by decide) (by decide) (by decide) ?_
      refine X_aload_n Γ d_M_broker_52 rfl 0 rfl rfl ?_
      refine X_get Γ d_M_broker_53 (by decide) rfl rfl in_M 15 (by decide) w495 rfl rfl rfl ?_
      refine X_iload_n Γ d_M_broker_56 rfl 1 rfl rfl ?_
      refine X_zald (v := (G 9 x1.toNatClampNeg)) Γ d_M_broker_57 (by decide) rfl 1 rfl (isBM_in h4) rfl rfl ?_
      refine X_if_eq (tgt := 65) Γ d_M_broker_58 (by decide) rfl (fun h58 => ?_) (fun h58 => ?_)
      · replace E := E.trans (if_pos h58)
        refine X_iconst (v := 0) Γ d_M_broker_65 (by decide) rfl ?_
        exact X_ireti Γ d_M_broker_66 E.symm rfl
      · replace E := E.trans (if_neg h58)
        refine X_iconst (v := 1) Γ d_M_broker_61 (by decide) rfl ?_
        refine X_goto (pc' := 66) Γ d_M_broker_62 (by decide) ?_
        exact X_ireti Γ d_M_broker_66 E.symm rfl
    replace E := E.trans (if_neg h10_0)
    by_cases h10_1 : x2 = 1
    · replace E := E.trans (if_pos h10_1)
      refine X_tableIn (pc' := 67) (off := 57) Γ d_M_broker_10 h10_1 (by decide) (by decide) (by decide) (by decide) ?_
      refine X_aload_n Γ d_M_broker_67 rfl 0 rfl rfl ?_
      refine X_get Γ d_M_broker_68 (by decide) rfl rfl in_M 16 (by decide) w496 rfl rfl rfl ?_
      refine X_iload_n Γ d_M_broker_71 rfl 1 rfl rfl ?_
      refine X_iald (v := (G 10 x1.toNatClampNeg)) Γ d_M_broker_72 (by decide) rfl 0 rfl (isBM_in h4) rfl rfl ?_
      exact X_ireti Γ d_M_broker_73 E.symm rfl
    replace E := E.trans (if_neg h10_1)
    by_cases h10_2 : x2 = 2
    · replace E := E.trans (if_pos h10_2)
      refine X_tableIn (pc' := 74) (off := 64) Γ d_M_broker_10 h10_2 (by decide) (by decide) (by decide) (by decide) ?_
      refine X_aload_n Γ d_M_broker_74 rfl 0 rfl rfl ?_
      refine X_get Γ d_M_broker_75 (by decide) rfl rfl in_M 17 (by decide) w497 rfl rfl rfl ?_
      refine X_iload_n Γ d_M_broker_78 rfl 1 rfl rfl ?_
      refine X_iald (v := (G 11 x1.toNatClampNeg)) Γ d_M_broker_79 (by decide) rfl 0 rfl (isBM_in h4) rfl rfl ?_
      exact X_ireti Γ d_M_broker_80 E.symm rfl
    replace E := E.trans (if_neg h10_2)
    by_cases h10_3 : x2 = 3
    · replace E := E.trans (if_pos h10_3)
      refine X_tableIn (pc' := 81) (off := 71) Γ d_M_broker_10 h10_3 (by decide) (by decide) (by decide) (by decide) ?_
      refine X_aload_n Γ d_M_broker_81 rfl 0 rfl rfl ?_
      refine X_iload_n Γ d_M_broker_82 rfl 1 rfl rfl ?_
      refine X_callVi (rest := []) Γ d_M_broker_83 (m_M_leads l D cI cZ cB cM a hJ G x1) (by decide) rfl rfl rfl w588 w590 s_M_leads w9 w591 e_M_leads ⟨by decide, by decide⟩ ⟨rfl, rfl⟩ rfl rfl (Nat.le_of_ble_eq_true rfl) rfl ?_
      refine X_if_eq (tgt := 98) Γ d_M_broker_86 (by decide) rfl (fun h86 => ?_) (fun h86 => ?_)
      · replace E := E.trans (if_pos h86)
        refine X_iconst (v := 0) Γ d_M_broker_98 (by decide) rfl ?_
        exact X_ireti Γ d_M_broker_99 E.symm rfl
      · replace E := E.trans (if_neg h86)
        refine X_aload_n Γ d_M_broker_89 rfl 0 rfl rfl ?_
        refine X_iconst (v := 0) Γ d_M_broker_90 (by decide) rfl ?_
        refine X_iload_n Γ d_M_broker_91 rfl 1 rfl rfl ?_
        refine X_callVi (rest := []) Γ d_M_broker_92 (m_M_bits l D cI cZ cB cM a hJ G 0 x1 (isBM_in h4)) (by decide) rfl rfl rfl w692 w694 s_M_bits w9 w695 e_M_bits ⟨by decide, by decide⟩ ⟨rfl, rfl⟩ rfl rfl (Nat.le_of_ble_eq_true rfl) rfl ?_
        refine X_goto (pc' := 99) Γ d_M_broker_95 (by decide) ?_
        exact X_ireti Γ d_M_broker_99 E.symm rfl
    replace E := E.trans (if_neg h10_3)
    by_cases h10_4 : x2 = 4
    · replace E := E.trans (if_pos h10_4)
      refine X_tableIn (pc' := 100) (off := 90) Γ d_M_broker_10 h10_4 (by decide) (by decide) (by decide) (by decide) ?_
      refine X_aload_n Γ d_M_broker_100 rfl 0 rfl rfl ?_
      refine X_get Γ d_M_broker_101 (by decide) rfl rfl in_M 9 (by decide) w489 rfl rfl rfl ?_
      refine X_aload_n Γ d_M_broker_104 rfl 0 rfl rfl ?_
      refine X_get Γ d_M_broker_105 (by decide) rfl rfl in_M 13 (by decide) w493 rfl rfl rfl ?_
      refine X_iload_n Γ d_M_broker_108 rfl 1 rfl rfl ?_
      refine X_iald (v := (G 7 x1.toNatClampNeg)) Γ d_M_broker_109 (by decide) rfl 0 rfl (isBM_in h4) rfl rfl ?_
      refine X_iald (v := (G 3 (G 7 x1.toNatClampNeg).toNatClampNeg)) Γ d_M_broker_110 (by decide) rfl 0 rfl (hT.1 _ (vp_lt (isBM_in h4))) rfl rfl ?_
      exact X_ireti Γ d_M_broker_111 E.symm rfl
    replace E := E.trans (if_neg h10_4)
    by_cases h10_5 : x2 = 5
    · replace E := E.trans (if_pos h10_5)
      refine X_tableIn (pc' := 112) (off := 102) Γ d_M_broker_10 h10_5 (by decide) (by decide) (by decide) (by decide) ?_
      refine X_aload_n Γ d_M_broker_112 rfl 0 rfl rfl ?_
      refine X_get Γ d_M_broker_113 (by decide) rfl rfl in_M 14 (by decide) w494 rfl rfl rfl ?_
      refine X_iload_n Γ d_M_broker_116 rfl 1 rfl rfl ?_
      refine X_iald (v := (G 8 x1.toNatClampNeg)) Γ d_M_broker_117 (by decide) rfl 0 rfl (isBM_in h4) rfl rfl ?_
      exact X_ireti Γ d_M_broker_118 E.symm rfl
    replace E := E.trans (if_neg h10_5)
    by_cases h10_6 : x2 = 6
    · replace E := E.trans (if_pos h10_6)
      refine X_tableIn (pc' := 119) (off := 109) Γ d_M_broker_10 h10_6 (by decide) (by decide) (by decide) (by decide) ?_
      refine X_aload_n Γ d_M_broker_119 rfl 0 rfl rfl ?_
      refine X_get Γ d_M_broker_120 (by decide) rfl rfl in_M 18 (by decide) w498 rfl rfl rfl ?_
      refine X_iload_n Γ d_M_broker_123 rfl 1 rfl rfl ?_
      refine X_iald (v := (G 12 x1.toNatClampNeg)) Γ d_M_broker_124 (by decide) rfl 0 rfl (isBM_in h4) rfl rfl ?_
      exact X_ireti Γ d_M_broker_125 E.symm rfl
    replace E := E.trans (if_neg h10_6)
    refine X_tableOut (pc' := 126) Γ d_M_broker_10 (tb_0_6 h10_0 h10_1 h10_2 h10_3 h10_4 h10_5 h10_6) (by decide) ?_
    refine X_iconst (v := (-1)) Γ d_M_broker_126 (by decide) rfl ?_
    exact X_ireti Γ d_M_broker_127 E.symm rfl
  · replace E := E.trans (if_pos h4)
    refine X_iconst (v := (-1)) Γ d_M_broker_7 (by decide) rfl ?_
    exact X_ireti Γ d_M_broker_8 E.symm rfl
