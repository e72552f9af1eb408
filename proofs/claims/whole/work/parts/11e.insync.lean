def f_I_govern_4 (x1 : Int32) (G : Nat → Nat → Int32) : Nat → Int32 → Int32 → Int32 × (Nat → Nat → Int32)
  | 0, v2_4, v3_4 => (0, G)
  | k4 + 1, v2_4, v3_4 => (if 4 ≤ v3_4 then (((f_T_reactTo v2_4 G).1), ((f_T_reactTo v2_4 G).2)) else (jn (fun (v2_35 : Int32) => (f_I_govern_4 x1 G k4 v2_35 (v3_4 + 1))) (fun (j35 : Int32 → Int32 × (Nat → Nat → Int32)) => (if (G (2 + v3_4.toNatClampNeg) 4) = 0 then (j35 v2_4) else (if ((f_I_contains x1 v3_4)) = 0 then (j35 (v2_4 ||| (1 <<< (v3_4 &&& 31)))) else (j35 v2_4))))))
def f_I_govern (x1 : Int32) (G : Nat → Nat → Int32) : Int32 × (Nat → Nat → Int32) := (f_I_govern_4 x1 G 5 0 0)
theorem e_I_govern : y_I_govern.cls ≠ "java/lang/invoke/MethodHandle" ∧ y_I_govern.cls ≠ "java/lang/invoke/VarHandle" ∧ (parseMethodDescriptor y_I_govern.desc).map (fun d => d.parameters.length) = some 1 := by decide +kernel
set_option maxHeartbeats 4000000 in
set_option maxRecDepth 100000 in
theorem m_I_govern (l : Launch) (D : va_G) (cI cZ cB cM : ClassId) (a : Nat → Nat) (hJ : xJ 56 a) (P : Nat → Nat) (G : Nat → Nat → Int32) (x1 : Int32) : Met l y_I_govern (Cond.code y_I_govern prog_1_method_15_code 4 (Option.some FieldType.boolean) :: wsBig) { frames := 3, cells := 0, slots := 0, locals := 65 } (xP D xcl (xty cI cZ cB cM) 56 a (kg (kC cI cB cM a P) G) [.ref (a 0), .int x1]) (xQi D xcl 56 a ((f_I_govern x1 G).1) (kg (kC cI cB cM a P) ((f_I_govern x1 G).2))) 0 0 (xA 56 a) := by
  refine X_met (by decide) rfl (Nat.le_of_ble_eq_true rfl) hJ (fun Y s m args Γ => ?_)
  show X Y s m D xcl 56 a 4 (kg (kC cI cB cM a P) G) 0 [(0, .ref (a 0)), (1, .int x1)] []
  have E := f_I_govern.eq_1 x1 G
  refine X_iconst (v := 0) Γ d_I_govern_0 (by decide) rfl ?_
  refine X_istore_n Γ d_I_govern_1 rfl (by decide) rfl rfl ?_
  refine X_iconst (v := 0) Γ d_I_govern_2 (by decide) rfl ?_
  refine X_istore_n Γ d_I_govern_3 rfl (by decide) rfl rfl ?_
  have J4 : ∀ (k4 : Nat) (v2_4 : Int32) (v3_4 : Int32), (0 < k4 ∧ k4 ≤ 5 ∧ v3_4 = nI (5 - k4)) → f_I_govern x1 G = f_I_govern_4 x1 G k4 v2_4 v3_4 → X Y s m D xcl 56 a 4 (kg (kC cI cB cM a P) G) 4 [(0, .ref (a 0)), (1, .int x1), (2, .int v2_4), (3, .int v3_4)] [] := by
    intro k4
    induction k4 with
    | zero => exact fun v2_4 v3_4 hI4 _ => absurd hI4 (fun h => Nat.lt_irrefl 0 h.1)
    | succ k4 ih4 =>
      intro v2_4 v3_4 hI4 E
      rw [f_I_govern_4] at E
      refine X_iload_n Γ d_I_govern_4 rfl 3 rfl rfl ?_
      refine X_iconst (v := 4) Γ d_I_govern_5 (by decide) rfl ?_
      refine X_icmp_ge (tgt := 41) Γ d_I_govern_6 (by decide) rfl (fun h6 => ?_) (fun h6 => ?_)
      · replace E := E.trans (if_pos h6)
        refine X_aload_n Γ d_I_govern_41 rfl 0 rfl rfl ?_
        refine X_get Γ d_I_govern_42 (by decide) kC_I rfl in_I 4 (by decide) w199 rfl rfl rfl ?_
        refine X_iload_n Γ d_I_govern_45 rfl 2 rfl rfl ?_
        refine X_callVNi (rest := []) Γ d_I_govern_46 (m_T_reactTo l D cI cZ cB cM a hJ P G v2_4) (by decide) kC_T rfl rfl w430 w432 s_T_reactTo w3 w433 e_T_reactTo ⟨by decide, by decide⟩ ⟨rfl, rfl⟩ rfl rfl (Nat.le_of_ble_eq_true rfl) rfl ?_
        exact X_iretz Γ d_I_govern_49 (zb_reactTo _ _) (g_r E) (g_eq E)
      · replace E := E.trans (if_neg h6)
        refine X_aload_n Γ d_I_govern_9 rfl 0 rfl rfl ?_
        refine X_get Γ d_I_govern_10 (by decide) kC_I rfl in_I 3 (by decide) w198 rfl rfl rfl ?_
        refine X_iload_n Γ d_I_govern_13 rfl 3 rfl rfl ?_
        refine X_aald Γ d_I_govern_14 (by decide) kC_BA 2 rfl (lc_in (by decide) (by decide) hI4.2.1 hI4.2.2 h6) rfl rfl ?_
        refine X_getN Γ d_I_govern_15 (Nat.lt_of_lt_of_le (Nat.add_lt_add_left (vp_lt (lc_in (by decide) (by decide) hI4.2.1 hI4.2.2 h6)) 2) (by decide : 6 ≤ 56)) (kC_B (Nat.le_add_right 2 _) (Nat.add_lt_add_left (vp_lt (lc_in (by decide) (by decide) hI4.2.1 hI4.2.2 h6)) 2)) rfl in_B 4 (by decide) w155 rfl rfl rfl ?_
        refine jn_open E (fun j35 ej35 E => ?_)
        have J35 : ∀ (v2_35 : Int32), (True) → f_I_govern x1 G = j35 v2_35 → X Y s m D xcl 56 a 4 (kg (kC cI cB cM a P) G) 35 [(0, .ref (a 0)), (1, .int x1), (2, .int v2_35), (3, .int v3_4)] [] := by
          intro v2_35 hI35 E
          rw [ej35] at E
          refine X_iinc (v := (v3_4 + 1)) Γ d_I_govern_35 3 rfl rfl (by decide) rfl rfl ?_
          refine X_goto (pc' := 4) Γ d_I_govern_38 (by decide) ?_
          refine X_loc [1, 2, 3, 0] rfl ?_
          exact ih4 v2_35 (v3_4 + 1) (lc_step (by decide) (by decide) hI4.1 hI4.2.1 hI4.2.2 h6) E
        refine X_if_eq (tgt := 35) Γ d_I_govern_18 (by decide) rfl (fun h18 => ?_) (fun h18 => ?_)
        · replace E := E.trans (if_pos h18)
          refine X_loc [0, 1, 2, 3] rfl ?_
          exact J35 v2_4 trivial E
        · replace E := E.trans (if_neg h18)
          refine X_iload_n Γ d_I_govern_21 rfl 1 rfl rfl ?_
          refine X_iload_n Γ d_I_govern_22 rfl 3 rfl rfl ?_
          refine X_callSi (rest := []) Γ d_I_govern_23 (m_I_contains l D _ _ _ _ hJ _ _ x1 v3_4) w429 w256 w1 w257 e_I_contains ⟨by decide, by decide⟩ ⟨rfl, rfl⟩ rfl rfl (Nat.le_of_ble_eq_true rfl) rfl ?_
          refine X_if_ne (tgt := 35) Γ d_I_govern_26 (by decide) rfl (fun h26 => ?_) (fun h26 => ?_)
          · replace E := E.trans (if_neg h26)
            refine X_loc [0, 1, 2, 3] rfl ?_
            exact J35 v2_4 trivial E
          · replace E := E.trans (if_pos h26)
            refine X_iload_n Γ d_I_govern_29 rfl 2 rfl rfl ?_
            refine X_iconst (v := 1) Γ d_I_govern_30 (by decide) rfl ?_
            refine X_iload_n Γ d_I_govern_31 rfl 3 rfl rfl ?_
            refine X_ishl Γ d_I_govern_32 rfl ?_
            refine X_ior Γ d_I_govern_33 rfl ?_
            refine X_istore_n Γ d_I_govern_34 rfl (by decide) rfl rfl ?_
            refine X_loc [1, 2, 0, 3] rfl ?_
            exact J35 (v2_4 ||| (1 <<< (v3_4 &&& 31))) trivial E
  refine X_loc [2, 3, 1, 0] rfl ?_
  exact J4 5 0 0 (⟨by decide, by decide, by decide⟩) E
def f_I_tick (x1 : Int32) (G : Nat → Nat → Int32) : Int32 × (Nat → Nat → Int32) := (if x1 < 0 then (0, G) else (if x1 ≤ 50 then (1, (g2 G 0 6 ((G 0 6) + x1))) else (0, G)))
theorem e_I_tick : y_I_tick.cls ≠ "java/lang/invoke/MethodHandle" ∧ y_I_tick.cls ≠ "java/lang/invoke/VarHandle" ∧ (parseMethodDescriptor y_I_tick.desc).map (fun d => d.parameters.length) = some 1 := by decide +kernel
set_option maxHeartbeats 4000000 in
set_option maxRecDepth 100000 in
theorem m_I_tick (l : Launch) (D : va_G) (cI cZ cB cM : ClassId) (a : Nat → Nat) (hJ : xJ 56 a) (P : Nat → Nat) (G : Nat → Nat → Int32) (x1 : Int32) : Met l y_I_tick (Cond.code y_I_tick prog_1_method_16_code 2 (Option.some FieldType.boolean) :: wsBig) { frames := 0, cells := 0, slots := 0, locals := 0 } (xP D xcl (xty cI cZ cB cM) 56 a (kg (kC cI cB cM a P) G) [.ref (a 0), .int x1]) (xQi D xcl 56 a ((f_I_tick x1 G).1) (kg (kC cI cB cM a P) ((f_I_tick x1 G).2))) 0 0 (xA 56 a) := by
  refine X_met (by decide) rfl (Nat.le_of_ble_eq_true rfl) hJ (fun Y s m args Γ => ?_)
  show X Y s m D xcl 56 a 2 (kg (kC cI cB cM a P) G) 0 [(0, .ref (a 0)), (1, .int x1)] []
  have E := f_I_tick.eq_1 x1 G
  refine X_iload_n Γ d_I_tick_0 rfl 1 rfl rfl ?_
  refine X_if_lt (tgt := 10) Γ d_I_tick_1 (by decide) rfl (fun h1 => ?_) (fun h1 => ?_)
  · replace E := E.trans (if_pos h1)
    refine X_iconst (v := 0) Γ d_I_tick_10 (by decide) rfl ?_
    exact X_iretz Γ d_I_tick_11 rfl (g_r E) (g_eq E)
  · replace E := E.trans (if_neg h1)
    refine X_iload_n Γ d_I_tick_4 rfl 1 rfl rfl ?_
    refine X_bipush (v := 50) Γ d_I_tick_5 (by decide) rfl ?_
    refine X_icmp_le (tgt := 12) Γ d_I_tick_7 (by decide) rfl (fun h7 => ?_) (fun h7 => ?_)
    · replace E := E.trans (if_pos h7)
      refine X_aload_n Γ d_I_tick_12 rfl 0 rfl rfl ?_
      refine X_dup Γ d_I_tick_13 rfl rfl ?_
      refine X_get Γ d_I_tick_14 (by decide) kC_I rfl in_I 6 (by decide) w201 rfl rfl rfl ?_
      refine X_iload_n Γ d_I_tick_17 rfl 1 rfl rfl ?_
      refine X_iadd Γ d_I_tick_18 rfl ?_
      refine X_put (ty := .int) Γ d_I_tick_19 (by decide) kC_I rfl in_I 6 (by decide) w201 rfl ty_I ty_I_ok nm_I rfl (by decide +kernel) rfl rfl (Nat.le_of_ble_eq_true rfl) kp_I_6 rfl ?_
      refine X_iconst (v := 1) Γ d_I_tick_22 (by decide) rfl ?_
      exact X_iretz Γ d_I_tick_23 rfl (g_r E) (g_eq E)
    · replace E := E.trans (if_neg h7)
      refine X_iconst (v := 0) Γ d_I_tick_10 (by decide) rfl ?_
      exact X_iretz Γ d_I_tick_11 rfl (g_r E) (g_eq E)
def f_I_controller (x1 : Int32) (G : Nat → Nat → Int32) : Int32 := (if x1 = 0 then (G 26 0) else (if x1 = 1 then (G 26 1) else (if x1 = 2 then (G 26 2) else (-1))))
theorem e_I_controller : y_I_controller.cls ≠ "java/lang/invoke/MethodHandle" ∧ y_I_controller.cls ≠ "java/lang/invoke/VarHandle" ∧ (parseMethodDescriptor y_I_controller.desc).map (fun d => d.parameters.length) = some 1 := by decide +kernel
set_option maxHeartbeats 4000000 in
set_option maxRecDepth 100000 in
theorem m_I_controller (l : Launch) (D : va_G) (cI cZ cB cM : ClassId) (a : Nat → Nat) (hJ : xJ 56 a) (P : Nat → Nat) (G : Nat → Nat → Int32) (x1 : Int32) : Met l y_I_controller (Cond.code y_I_controller prog_1_method_17_code 2 (Option.some FieldType.int) :: wsBig) { frames := 0, cells := 0, slots := 0, locals := 0 } (xP D xcl (xty cI cZ cB cM) 56 a (kg (kC cI cB cM a P) G) [.ref (a 0), .int x1]) (xQi D xcl 56 a (f_I_controller x1 G) (kg (kC cI cB cM a P) G)) 0 0 (xA 56 a) := by
  refine X_met (by decide) rfl (Nat.le_of_ble_eq_true rfl) hJ (fun Y s m args Γ => ?_)
  show X Y s m D xcl 56 a 2 (kg (kC cI cB cM a P) G) 0 [(0, .ref (a 0)), (1, .int x1)] []
  have E := f_I_controller.eq_1 x1 G
  refine X_iload_n Γ d_I_controller_0 rfl 1 rfl rfl ?_
  by_cases h1_0 : x1 = 0
  · replace E := E.trans (if_pos h1_0)
    refine X_tableIn (pc' := 28) (off := 27) Γ d_I_controller_1 h1_0 (by decide) (by decide) (by decide) (by decide) ?_
    refine X_aload_n Γ d_I_controller_28 rfl 0 rfl rfl ?_
    refine X_get Γ d_I_controller_29 (by decide) kC_I rfl in_I 4 (by decide) w199 rfl rfl rfl ?_
    refine X_getN Γ d_I_controller_32 (by decide) kC_T rfl in_T 0 (by decide) w36 rfl rfl rfl ?_
    exact X_ireti Γ d_I_controller_35 E.symm rfl
  replace E := E.trans (if_neg h1_0)
  by_cases h1_1 : x1 = 1
  · replace E := E.trans (if_pos h1_1)
    refine X_tableIn (pc' := 36) (off := 35) Γ d_I_controller_1 h1_1 (by decide) (by decide) (by decide) (by decide) ?_
    refine X_aload_n Γ d_I_controller_36 rfl 0 rfl rfl ?_
    refine X_get Γ d_I_controller_37 (by decide) kC_I rfl in_I 4 (by decide) w199 rfl rfl rfl ?_
    refine X_getN Γ d_I_controller_40 (by decide) kC_T rfl in_T 1 (by decide) w39 rfl rfl rfl ?_
    exact X_ireti Γ d_I_controller_43 E.symm rfl
  replace E := E.trans (if_neg h1_1)
  by_cases h1_2 : x1 = 2
  · replace E := E.trans (if_pos h1_2)
    refine X_tableIn (pc' := 44) (off := 43) Γ d_I_controller_1 h1_2 (by decide) (by decide) (by decide) (by decide) ?_
    refine X_aload_n Γ d_I_controller_44 rfl 0 rfl rfl ?_
    refine X_get Γ d_I_controller_45 (by decide) kC_I rfl in_I 4 (by decide) w199 rfl rfl rfl ?_
    refine X_getN Γ d_I_controller_48 (by decide) kC_T rfl in_T 2 (by decide) w42 rfl rfl rfl ?_
    exact X_ireti Γ d_I_controller_51 E.symm rfl
  replace E := E.trans (if_neg h1_2)
  refine X_tableOut (pc' := 52) Γ d_I_controller_1 (tb_0_2 h1_0 h1_1 h1_2) (by decide) ?_
  refine X_iconst (v := (-1)) Γ d_I_controller_52 (by decide) rfl ?_
  exact X_ireti Γ d_I_controller_53 E.symm rfl
def f_I_broker (x1 : Int32) (x2 : Int32) (G : Nat → Nat → Int32) : Int32 := (if ((f_I_isBroker x1)) = 0 then (-1) else ((f_B_fact (2 + x1.toNatClampNeg) x2 G)))
theorem e_I_broker : y_I_broker.cls ≠ "java/lang/invoke/MethodHandle" ∧ y_I_broker.cls ≠ "java/lang/invoke/VarHandle" ∧ (parseMethodDescriptor y_I_broker.desc).map (fun d => d.parameters.length) = some 2 := by decide +kernel
set_option maxHeartbeats 4000000 in
set_option maxRecDepth 100000 in
theorem m_I_broker (l : Launch) (D : va_G) (cI cZ cB cM : ClassId) (a : Nat → Nat) (hJ : xJ 56 a) (P : Nat → Nat) (G : Nat → Nat → Int32) (x1 : Int32) (x2 : Int32) : Met l y_I_broker (Cond.code y_I_broker prog_1_method_18_code 3 (Option.some FieldType.int) :: wsBig) { frames := 2, cells := 0, slots := 0, locals := 41 } (xP D xcl (xty cI cZ cB cM) 56 a (kg (kC cI cB cM a P) G) [.ref (a 0), .int x1, .int x2]) (xQi D xcl 56 a (f_I_broker x1 x2 G) (kg (kC cI cB cM a P) G)) 0 0 (xA 56 a) := by
  refine X_met (by decide) rfl (Nat.le_of_ble_eq_true rfl) hJ (fun Y s m args Γ => ?_)
  show X Y s m D xcl 56 a 3 (kg (kC cI cB cM a P) G) 0 [(0, .ref (a 0)), (1, .int x1), (2, .int x2)] []
  have E := f_I_broker.eq_1 x1 x2 G
  refine X_iload_n Γ d_I_broker_0 rfl 1 rfl rfl ?_
  refine X_callSi (rest := []) Γ d_I_broker_1 (m_I_isBroker l D _ _ _ _ hJ _ _ x1) w225 w226 w1 w227 e_I_isBroker ⟨by decide, by decide⟩ ⟨rfl, rfl⟩ rfl rfl (Nat.le_of_ble_eq_true rfl) rfl ?_
  refine X_if_eq (tgt := 20) Γ d_I_broker_4 (by decide) rfl (fun h4 => ?_) (fun h4 => ?_)
  · replace E := E.trans (if_pos h4)
    refine X_iconst (v := (-1)) Γ d_I_broker_20 (by decide) rfl ?_
    exact X_ireti Γ d_I_broker_21 E.symm rfl
  · replace E := E.trans (if_neg h4)
    refine X_aload_n Γ d_I_broker_7 rfl 0 rfl rfl ?_
    refine X_get Γ d_I_broker_8 (by decide) kC_I rfl in_I 3 (by decide) w198 rfl rfl rfl ?_
    refine X_iload_n Γ d_I_broker_11 rfl 1 rfl rfl ?_
    refine X_aald Γ d_I_broker_12 (by decide) kC_BA 2 rfl (isB_in h4) rfl rfl ?_
    refine X_iload_n Γ d_I_broker_13 rfl 2 rfl rfl ?_
    refine X_callVNi (rest := []) Γ d_I_broker_14 (m_B_fact l D cI cZ cB cM a hJ P G (2 + x1.toNatClampNeg) (Nat.le_add_right 2 _) (Nat.add_lt_add_left (vp_lt (isB_in h4)) 2) x2) (Nat.lt_of_lt_of_le (Nat.add_lt_add_left (vp_lt (isB_in h4)) 2) (by decide : 6 ≤ 56)) (kC_B (Nat.le_add_right 2 _) (Nat.add_lt_add_left (vp_lt (isB_in h4)) 2)) rfl rfl w454 w456 s_B_fact w6 w457 e_B_fact ⟨by decide, by decide⟩ ⟨rfl, rfl⟩ rfl rfl (Nat.le_of_ble_eq_true rfl) rfl ?_
    refine X_goto (pc' := 21) Γ d_I_broker_17 (by decide) ?_
    exact X_ireti Γ d_I_broker_21 E.symm rfl
def f_I_epochAt (x1 : Int32) (x2 : Int32) (G : Nat → Nat → Int32) : Int32 := (if ((f_I_isBroker x1)) = 0 then 0 else ((f_L_stampOf (2 + x1.toNatClampNeg + 4) x2 G)))
theorem e_I_epochAt : y_I_epochAt.cls ≠ "java/lang/invoke/MethodHandle" ∧ y_I_epochAt.cls ≠ "java/lang/invoke/VarHandle" ∧ (parseMethodDescriptor y_I_epochAt.desc).map (fun d => d.parameters.length) = some 2 := by decide +kernel
set_option maxHeartbeats 4000000 in
set_option maxRecDepth 100000 in
theorem m_I_epochAt (l : Launch) (D : va_G) (cI cZ cB cM : ClassId) (a : Nat → Nat) (hJ : xJ 56 a) (P : Nat → Nat) (G : Nat → Nat → Int32) (x1 : Int32) (x2 : Int32) (hE : ∀ j : Nat, j < 4 → okL G (2 + j + 4)) : Met l y_I_epochAt (Cond.code y_I_epochAt prog_1_method_19_code 3 (Option.some FieldType.int) :: wsBig) { frames := 2, cells := 0, slots := 0, locals := 42 } (xP D xcl (xty cI cZ cB cM) 56 a (kg (kC cI cB cM a P) G) [.ref (a 0), .int x1, .int x2]) (xQi D xcl 56 a (f_I_epochAt x1 x2 G) (kg (kC cI cB cM a P) G)) 0 0 (xA 56 a) := by
  refine X_met (by decide) rfl (Nat.le_of_ble_eq_true rfl) hJ (fun Y s m args Γ => ?_)
  show X Y s m D xcl 56 a 3 (kg (kC cI cB cM a P) G) 0 [(0, .ref (a 0)), (1, .int x1), (2, .int x2)] []
  have E := f_I_epochAt.eq_1 x1 x2 G
  refine X_iload_n Γ d_I_epochAt_0 rfl 1 rfl rfl ?_
  refine X_callSi (rest := []) Γ d_I_epochAt_1 (m_I_isBroker l D _ _ _ _ hJ _ _ x1) w225 w226 w1 w227 e_I_isBroker ⟨by decide, by decide⟩ ⟨rfl, rfl⟩ rfl rfl (Nat.le_of_ble_eq_true rfl) rfl ?_
  refine X_if_eq (tgt := 23) Γ d_I_epochAt_4 (by decide) rfl (fun h4 => ?_) (fun h4 => ?_)
  · replace E := E.trans (if_pos h4)
    refine X_iconst (v := 0) Γ d_I_epochAt_23 (by decide) rfl ?_
    exact X_ireti Γ d_I_epochAt_24 E.symm rfl
  · replace E := E.trans (if_neg h4)
    refine X_aload_n Γ d_I_epochAt_7 rfl 0 rfl rfl ?_
    refine X_get Γ d_I_epochAt_8 (by decide) kC_I rfl in_I 3 (by decide) w198 rfl rfl rfl ?_
    refine X_iload_n Γ d_I_epochAt_11 rfl 1 rfl rfl ?_
    refine X_aald Γ d_I_epochAt_12 (by decide) kC_BA 2 rfl (isB_in h4) rfl rfl ?_
    refine X_getN Γ d_I_epochAt_13 (Nat.lt_of_lt_of_le (Nat.add_lt_add_left (vp_lt (isB_in h4)) 2) (by decide : 6 ≤ 56)) (kC_B (Nat.le_add_right 2 _) (Nat.add_lt_add_left (vp_lt (isB_in h4)) 2)) rfl in_B 1 (by decide) w151 rfl rfl rfl ?_
    refine X_iload_n Γ d_I_epochAt_16 rfl 2 rfl rfl ?_
    refine X_callVNi (rest := []) Γ d_I_epochAt_17 (m_L_stampOf l D cI cZ cB cM a hJ P G (2 + x1.toNatClampNeg + 4) (Nat.le_trans (by decide : 6 ≤ 2 + 4) (Nat.add_le_add_right (Nat.le_add_right 2 _) 4)) (Nat.lt_of_lt_of_le (Nat.add_lt_add_right (Nat.add_lt_add_left (vp_lt (isB_in h4)) 2) 4) (by decide : 6 + 4 ≤ 10)) x2 (hE _ (vp_lt (isB_in h4)))) (Nat.lt_of_lt_of_le (Nat.lt_of_lt_of_le (Nat.add_lt_add_right (Nat.add_lt_add_left (vp_lt (isB_in h4)) 2) 4) (by decide : 6 + 4 ≤ 10)) (by decide : 10 ≤ 56)) (kC_L (Nat.le_trans (by decide : 6 ≤ 2 + 4) (Nat.add_le_add_right (Nat.le_add_right 2 _) 4)) (Nat.lt_of_lt_of_le (Nat.add_lt_add_right (Nat.add_lt_add_left (vp_lt (isB_in h4)) 2) 4) (by decide : 6 + 4 ≤ 10))) rfl rfl w462 w278 s_L_stampOf w7 w279 e_L_stampOf ⟨by decide, by decide⟩ ⟨rfl, rfl⟩ rfl rfl (Nat.le_of_ble_eq_true rfl) rfl ?_
    refine X_goto (pc' := 24) Γ d_I_epochAt_20 (by decide) ?_
    exact X_ireti Γ d_I_epochAt_24 E.symm rfl
def f_I_valueAt (x1 : Int32) (x2 : Int32) (G : Nat → Nat → Int32) : Int32 := (if ((f_I_isBroker x1)) = 0 then 0 else ((f_L_valueOf (2 + x1.toNatClampNeg + 4) x2 G)))
theorem e_I_valueAt : y_I_valueAt.cls ≠ "java/lang/invoke/MethodHandle" ∧ y_I_valueAt.cls ≠ "java/lang/invoke/VarHandle" ∧ (parseMethodDescriptor y_I_valueAt.desc).map (fun d => d.parameters.length) = some 2 := by decide +kernel
set_option maxHeartbeats 4000000 in
set_option maxRecDepth 100000 in
theorem m_I_valueAt (l : Launch) (D : va_G) (cI cZ cB cM : ClassId) (a : Nat → Nat) (hJ : xJ 56 a) (P : Nat → Nat) (G : Nat → Nat → Int32) (x1 : Int32) (x2 : Int32) (hE : ∀ j : Nat, j < 4 → okL G (2 + j + 4)) : Met l y_I_valueAt (Cond.code y_I_valueAt prog_1_method_20_code 3 (Option.some FieldType.int) :: wsBig) { frames := 2, cells := 0, slots := 0, locals := 42 } (xP D xcl (xty cI cZ cB cM) 56 a (kg (kC cI cB cM a P) G) [.ref (a 0), .int x1, .int x2]) (xQi D xcl 56 a (f_I_valueAt x1 x2 G) (kg (kC cI cB cM a P) G)) 0 0 (xA 56 a) := by
  refine X_met (by decide) rfl (Nat.le_of_ble_eq_true rfl) hJ (fun Y s m args Γ => ?_)
  show X Y s m D xcl 56 a 3 (kg (kC cI cB cM a P) G) 0 [(0, .ref (a 0)), (1, .int x1), (2, .int x2)] []
  have E := f_I_valueAt.eq_1 x1 x2 G
  refine X_iload_n Γ d_I_valueAt_0 rfl 1 rfl rfl ?_
  refine X_callSi (rest := []) Γ d_I_valueAt_1 (m_I_isBroker l D _ _ _ _ hJ _ _ x1) w225 w226 w1 w227 e_I_isBroker ⟨by decide, by decide⟩ ⟨rfl, rfl⟩ rfl rfl (Nat.le_of_ble_eq_true rfl) rfl ?_
  refine X_if_eq (tgt := 23) Γ d_I_valueAt_4 (by decide) rfl (fun h4 => ?_) (fun h4 => ?_)
  · replace E := E.trans (if_pos h4)
    refine X_iconst (v := 0) Γ d_I_valueAt_23 (by decide) rfl ?_
    exact X_ireti Γ d_I_valueAt_24 E.symm rfl
  · replace E := E.trans (if_neg h4)
    refine X_aload_n Γ d_I_valueAt_7 rfl 0 rfl rfl ?_
    refine X_get Γ d_I_valueAt_8 (by decide) kC_I rfl in_I 3 (by decide) w198 rfl rfl rfl ?_
    refine X_iload_n Γ d_I_valueAt_11 rfl 1 rfl rfl ?_
    refine X_aald Γ d_I_valueAt_12 (by decide) kC_BA 2 rfl (isB_in h4) rfl rfl ?_
    refine X_getN Γ d_I_valueAt_13 (Nat.lt_of_lt_of_le (Nat.add_lt_add_left (vp_lt (isB_in h4)) 2) (by decide : 6 ≤ 56)) (kC_B (Nat.le_add_right 2 _) (Nat.add_lt_add_left (vp_lt (isB_in h4)) 2)) rfl in_B 1 (by decide) w151 rfl rfl rfl ?_
    refine X_iload_n Γ d_I_valueAt_16 rfl 2 rfl rfl ?_
    refine X_callVNi (rest := []) Γ d_I_valueAt_17 (m_L_valueOf l D cI cZ cB cM a hJ P G (2 + x1.toNatClampNeg + 4) (Nat.le_trans (by decide : 6 ≤ 2 + 4) (Nat.add_le_add_right (Nat.le_add_right 2 _) 4)) (Nat.lt_of_lt_of_le (Nat.add_lt_add_right (Nat.add_lt_add_left (vp_lt (isB_in h4)) 2) 4) (by decide : 6 + 4 ≤ 10)) x2 (hE _ (vp_lt (isB_in h4)))) (Nat.lt_of_lt_of_le (Nat.lt_of_lt_of_le (Nat.add_lt_add_right (Nat.add_lt_add_left (vp_lt (isB_in h4)) 2) 4) (by decide : 6 + 4 ≤ 10)) (by decide : 10 ≤ 56)) (kC_L (Nat.le_trans (by decide : 6 ≤ 2 + 4) (Nat.add_le_add_right (Nat.le_add_right 2 _) 4)) (Nat.lt_of_lt_of_le (Nat.add_lt_add_right (Nat.add_lt_add_left (vp_lt (isB_in h4)) 2) 4) (by decide : 6 + 4 ≤ 10))) rfl rfl w285 w287 s_L_valueOf w7 w288 e_L_valueOf ⟨by decide, by decide⟩ ⟨rfl, rfl⟩ rfl rfl (Nat.le_of_ble_eq_true rfl) rfl ?_
    refine X_goto (pc' := 24) Γ d_I_valueAt_20 (by decide) ?_
    exact X_ireti Γ d_I_valueAt_24 E.symm rfl
