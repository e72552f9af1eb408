def f_M_epochAt (x1 : Int32) (x2 : Int32) (G : Nat → Nat → Int32) : Int32 := (if (G 6 ((f_M_recordAt x1 x2 G)).toNatClampNeg) = 0 then (G 4 ((f_M_recordAt x1 x2 G)).toNatClampNeg) else (-(G 4 ((f_M_recordAt x1 x2 G)).toNatClampNeg)))
theorem e_M_epochAt : y_M_epochAt.cls ≠ "java/lang/invoke/MethodHandle" ∧ y_M_epochAt.cls ≠ "java/lang/invoke/VarHandle" ∧ (parseMethodDescriptor y_M_epochAt.desc).map (fun d => d.parameters.length) = some 2 := by decide +kernel
set_option maxHeartbeats 4000000 in
set_option maxRecDepth 100000 in
theorem m_M_epochAt (l : Launch) (D : va_G) (cI cZ cB cM : ClassId) (a : Nat → Nat) (hJ : xJ 27 a) (G : Nat → Nat → Int32) (x1 : Int32) (x2 : Int32) (hT : okT G) : Met l y_M_epochAt (Cond.code y_M_epochAt prog_8_method_15_code 4 (Option.some FieldType.int) :: wsBig) { frames := 2, cells := 0, slots := 0, locals := 45 } (xP D xcl (xty cI cZ cB cM) 27 a (kg (kM cI cZ a) G) [.ref (a 0), .int x1, .int x2]) (xQi D xcl 27 a (f_M_epochAt x1 x2 G) (kg (kM cI cZ a) G)) 0 0 (xA 27 a) := by
  refine X_met (by decide) rfl (Nat.le_of_ble_eq_true rfl) hJ (fun Y s m args Γ => ?_)
  show X Y s m D xcl 27 a 4 (kg (kM cI cZ a) G) 0 [(0, .ref (a 0)), (1, .int x1), (2, .int x2)] []
  have E := f_M_epochAt.eq_1 x1 x2 G
  refine X_aload_n Γ d_M_epochAt_0 rfl 0 rfl rfl ?_
  refine X_iload_n Γ d_M_epochAt_1 rfl 1 rfl rfl ?_
  refine X_iload_n Γ d_M_epochAt_2 rfl 2 rfl rfl ?_
  refine X_callVi (rest := []) Γ d_M_epochAt_3 (m_M_recordAt l D cI cZ cB cM a hJ G x1 x2 hT) (by decide) rfl rfl rfl w615 w617 s_M_recordAt w9 w618 e_M_recordAt ⟨by decide, by decide⟩ ⟨rfl, rfl⟩ rfl rfl (Nat.le_of_ble_eq_true rfl) rfl ?_
  refine X_istore_n Γ d_M_epochAt_6 rfl (by decide) rfl rfl ?_
  refine X_aload_n Γ d_M_epochAt_7 rfl 1 rfl rfl ?_
  refine X_get Γ d_M_epochAt_8 (by decide) rfl rfl in_M 12 (by decide) w492 rfl rfl rfl ?_
  refine X_iload_n Γ d_M_epochAt_11 rfl 0 rfl rfl ?_
  refine X_zald (v := (G 6 ((f_M_recordAt x1 x2 G)).toNatClampNeg)) Γ d_M_epochAt_12 (by decide) rfl 1 rfl (ra_in hT) rfl rfl ?_
  refine X_if_eq (tgt := 26) Γ d_M_epochAt_13 (by decide) rfl (fun h13 => ?_) (fun h13 => ?_)
  · replace E := E.trans (if_pos h13)
    refine X_aload_n Γ d_M_epochAt_26 rfl 1 rfl rfl ?_
    refine X_get Γ d_M_epochAt_27 (by decide) rfl rfl in_M 10 (by decide) w490 rfl rfl rfl ?_
    refine X_iload_n Γ d_M_epochAt_30 rfl 0 rfl rfl ?_
    refine X_iald (v := (G 4 ((f_M_recordAt x1 x2 G)).toNatClampNeg)) Γ d_M_epochAt_31 (by decide) rfl 0 rfl (ra_in hT) rfl rfl ?_
    exact X_ireti Γ d_M_epochAt_32 E.symm rfl
  · replace E := E.trans (if_neg h13)
    refine X_aload_n Γ d_M_epochAt_16 rfl 1 rfl rfl ?_
    refine X_get Γ d_M_epochAt_17 (by decide) rfl rfl in_M 10 (by decide) w490 rfl rfl rfl ?_
    refine X_iload_n Γ d_M_epochAt_20 rfl 0 rfl rfl ?_
    refine X_iald (v := (G 4 ((f_M_recordAt x1 x2 G)).toNatClampNeg)) Γ d_M_epochAt_21 (by decide) rfl 0 rfl (ra_in hT) rfl rfl ?_
    refine X_ineg Γ d_M_epochAt_22 rfl ?_
    refine X_goto (pc' := 32) Γ d_M_epochAt_23 (by decide) ?_
    exact X_ireti Γ d_M_epochAt_32 E.symm rfl
def f_M_valueAt (x1 : Int32) (x2 : Int32) (G : Nat → Nat → Int32) : Int32 := (G 5 ((f_M_recordAt x1 x2 G)).toNatClampNeg)
theorem e_M_valueAt : y_M_valueAt.cls ≠ "java/lang/invoke/MethodHandle" ∧ y_M_valueAt.cls ≠ "java/lang/invoke/VarHandle" ∧ (parseMethodDescriptor y_M_valueAt.desc).map (fun d => d.parameters.length) = some 2 := by decide +kernel
set_option maxHeartbeats 4000000 in
set_option maxRecDepth 100000 in
theorem m_M_valueAt (l : Launch) (D : va_G) (cI cZ cB cM : ClassId) (a : Nat → Nat) (hJ : xJ 27 a) (G : Nat → Nat → Int32) (x1 : Int32) (x2 : Int32) (hT : okT G) : Met l y_M_valueAt (Cond.code y_M_valueAt prog_8_method_16_code 4 (Option.some FieldType.int) :: wsBig) { frames := 2, cells := 0, slots := 0, locals := 45 } (xP D xcl (xty cI cZ cB cM) 27 a (kg (kM cI cZ a) G) [.ref (a 0), .int x1, .int x2]) (xQi D xcl 27 a (f_M_valueAt x1 x2 G) (kg (kM cI cZ a) G)) 0 0 (xA 27 a) := by
  refine X_met (by decide) rfl (Nat.le_of_ble_eq_true rfl) hJ (fun Y s m args Γ => ?_)
  show X Y s m D xcl 27 a 4 (kg (kM cI cZ a) G) 0 [(0, .ref (a 0)), (1, .int x1), (2, .int x2)] []
  have E := f_M_valueAt.eq_1 x1 x2 G
  refine X_aload_n Γ d_M_valueAt_0 rfl 0 rfl rfl ?_
  refine X_iload_n Γ d_M_valueAt_1 rfl 1 rfl rfl ?_
  refine X_iload_n Γ d_M_valueAt_2 rfl 2 rfl rfl ?_
  refine X_callVi (rest := []) Γ d_M_valueAt_3 (m_M_recordAt l D cI cZ cB cM a hJ G x1 x2 hT) (by decide) rfl rfl rfl w615 w617 s_M_recordAt w9 w618 e_M_recordAt ⟨by decide, by decide⟩ ⟨rfl, rfl⟩ rfl rfl (Nat.le_of_ble_eq_true rfl) rfl ?_
  refine X_istore_n Γ d_M_valueAt_6 rfl (by decide) rfl rfl ?_
  refine X_aload_n Γ d_M_valueAt_7 rfl 1 rfl rfl ?_
  refine X_get Γ d_M_valueAt_8 (by decide) rfl rfl in_M 11 (by decide) w491 rfl rfl rfl ?_
  refine X_iload_n Γ d_M_valueAt_11 rfl 0 rfl rfl ?_
  refine X_iald (v := (G 5 ((f_M_recordAt x1 x2 G)).toNatClampNeg)) Γ d_M_valueAt_12 (by decide) rfl 0 rfl (ra_in hT) rfl rfl ?_
  exact X_ireti Γ d_M_valueAt_13 E.symm rfl
def f_M_remove_4 (x1 : Int32) (G : Nat → Nat → Int32) : Nat → Int32 → (Nat → Nat → Int32) → (Nat → Nat → Int32)
  | 0, v2_4, Gv4 => Gv4
  | k4 + 1, v2_4, Gv4 => (if (Gv4 0 24) ≤ v2_4 then (g2 Gv4 0 24 ((Gv4 0 24) - 1)) else (f_M_remove_4 x1 G k4 (v2_4 + 1) ((f_M_move v2_4 (v2_4 - 1) Gv4))))
def f_M_remove (x1 : Int32) (G : Nat → Nat → Int32) : (Nat → Nat → Int32) := (f_M_remove_4 x1 G 10 (x1 + 1) G)
theorem e_M_remove : y_M_remove.cls ≠ "java/lang/invoke/MethodHandle" ∧ y_M_remove.cls ≠ "java/lang/invoke/VarHandle" ∧ (parseMethodDescriptor y_M_remove.desc).map (fun d => d.parameters.length) = some 1 := by decide +kernel
set_option maxHeartbeats 4000000 in
set_option maxRecDepth 100000 in
theorem m_M_remove (l : Launch) (D : va_G) (cI cZ cB cM : ClassId) (a : Nat → Nat) (hJ : xJ 27 a) (G : Nat → Nat → Int32) (x1 : Int32) (hc : okK G) (hi : 0 ≤ x1.toInt ∧ x1.toInt < (G 0 24).toInt) : Met l y_M_remove (Cond.code y_M_remove prog_8_method_20_code 3 (Option.none : Option FieldType) :: wsBig) { frames := 1, cells := 0, slots := 0, locals := 22 } (xP D xcl (xty cI cZ cB cM) 27 a (kg (kM cI cZ a) G) [.ref (a 0), .int x1]) (xQv D xcl 27 a (kg (kM cI cZ a) (f_M_remove x1 G))) 0 0 (xA 27 a) := by
  refine X_met (by decide) rfl (Nat.le_of_ble_eq_true rfl) hJ (fun Y s m args Γ => ?_)
  show X Y s m D xcl 27 a 3 (kg (kM cI cZ a) G) 0 [(0, .ref (a 0)), (1, .int x1)] []
  have E := f_M_remove.eq_1 x1 G
  refine X_iload_n Γ d_M_remove_0 rfl 1 rfl rfl ?_
  refine X_iconst (v := 1) Γ d_M_remove_1 (by decide) rfl ?_
  refine X_iadd Γ d_M_remove_2 rfl ?_
  refine X_istore_n Γ d_M_remove_3 rfl (by decide) rfl rfl ?_
  have J4 : ∀ (k4 : Nat) (v2_4 : Int32) (Gv4 : Nat → Nat → Int32), (9 - v2_4.toInt < k4 ∧ 1 ≤ v2_4.toInt ∧ v2_4.toInt ≤ 8 ∧ Gv4 0 24 = G 0 24) → f_M_remove x1 G = f_M_remove_4 x1 G k4 v2_4 Gv4 → X Y s m D xcl 27 a 3 (kg (kM cI cZ a) Gv4) 4 [(0, .ref (a 0)), (1, .int x1), (2, .int v2_4)] [] := by
    intro k4
    induction k4 with
    | zero => exact fun v2_4 Gv4 hI4 _ => absurd hI4 (fun h => by omega)
    | succ k4 ih4 =>
      intro v2_4 Gv4 hI4 E
      rw [f_M_remove_4] at E
      refine X_iload_n Γ d_M_remove_4 rfl 2 rfl rfl ?_
      refine X_aload_n Γ d_M_remove_5 rfl 0 rfl rfl ?_
      refine X_get Γ d_M_remove_6 (by decide) rfl rfl in_M 24 (by decide) w504 rfl rfl rfl ?_
      refine X_icmp_ge (tgt := 26) Γ d_M_remove_9 (by decide) rfl (fun h9 => ?_) (fun h9 => ?_)
      · replace E := E.trans (if_pos h9)
        refine X_aload_n Γ d_M_remove_26 rfl 0 rfl rfl ?_
        refine X_dup Γ d_M_remove_27 rfl rfl ?_
        refine X_get Γ d_M_remove_28 (by decide) rfl rfl in_M 24 (by decide) w504 rfl rfl rfl ?_
        refine X_iconst (v := 1) Γ d_M_remove_31 (by decide) rfl ?_
        refine X_isub Γ d_M_remove_32 rfl ?_
        refine X_put (ty := .int) Γ d_M_remove_33 (by decide) rfl rfl in_M 24 (by decide) w504 rfl ty_M ty_M_ok nm_M rfl (by decide +kernel) rfl rfl (Nat.le_of_ble_eq_true rfl) kp_M_24 rfl ?_
        exact X_vret Γ d_M_remove_36 (gv_eq E)
      · replace E := E.trans (if_neg h9)
        refine X_aload_n Γ d_M_remove_12 rfl 0 rfl rfl ?_
        refine X_iload_n Γ d_M_remove_13 rfl 2 rfl rfl ?_
        refine X_iload_n Γ d_M_remove_14 rfl 2 rfl rfl ?_
        refine X_iconst (v := 1) Γ d_M_remove_15 (by decide) rfl ?_
        refine X_isub Γ d_M_remove_16 rfl ?_
        refine X_callVv (rest := []) Γ d_M_remove_17 (m_M_move l D cI cZ cB cM a hJ Gv4 v2_4 (v2_4 - 1) (rm_in hc hI4 h9) (rm_in2 hc hI4 h9)) (by decide) rfl rfl rfl w655 w657 s_M_move w9 w658 e_M_move ⟨by decide, by decide⟩ ⟨rfl, rfl⟩ rfl rfl (Nat.le_of_ble_eq_true rfl) rfl ?_
        refine X_iinc (v := (v2_4 + 1)) Γ d_M_remove_20 2 rfl rfl (by decide) rfl rfl ?_
        refine X_goto (pc' := 4) Γ d_M_remove_23 (by decide) ?_
        refine X_loc [1, 2, 0] rfl ?_
        exact ih4 (v2_4 + 1) ((f_M_move v2_4 (v2_4 - 1) Gv4)) (rm_step hc hI4 h9) E
  refine X_loc [1, 2, 0] rfl ?_
  exact J4 10 (x1 + 1) G (rm_init hc hi) E
def f_M_fetch (x1 : Int32) (G : Nat → Nat → Int32) : Int32 × (Nat → Nat → Int32) := (if ((f_M_isBroker x1)) = 0 then (0, G) else (if ((f_M_leads x1 G)) = 0 then (if (G 9 x1.toNatClampNeg) = 0 then (0, G) else (if 0 ≤ (G 11 x1.toNatClampNeg) then (1, ((f_M_send 0 x1 (G 11 x1.toNatClampNeg) (G 10 x1.toNatClampNeg) ((g2 G 12 x1.toNatClampNeg ((G 12 x1.toNatClampNeg) + 1)) 12 x1.toNatClampNeg) (G 3 (G 7 x1.toNatClampNeg).toNatClampNeg) (G 4 (G 7 x1.toNatClampNeg).toNatClampNeg) (g2 (g2 G 12 x1.toNatClampNeg ((G 12 x1.toNatClampNeg) + 1)) 13 x1.toNatClampNeg 1)).2)) else (0, G))) else (0, G)))
theorem e_M_fetch : y_M_fetch.cls ≠ "java/lang/invoke/MethodHandle" ∧ y_M_fetch.cls ≠ "java/lang/invoke/VarHandle" ∧ (parseMethodDescriptor y_M_fetch.desc).map (fun d => d.parameters.length) = some 1 := by decide +kernel
set_option maxHeartbeats 4000000 in
set_option maxRecDepth 100000 in
theorem m_M_fetch (l : Launch) (D : va_G) (cI cZ cB cM : ClassId) (a : Nat → Nat) (hJ : xJ 27 a) (G : Nat → Nat → Int32) (x1 : Int32) (hT : okT G) (hc : okK G) : Met l y_M_fetch (Cond.code y_M_fetch prog_8_method_21_code 3 (Option.some FieldType.boolean) :: wsBig) { frames := 2, cells := 0, slots := 0, locals := 41 } (xP D xcl (xty cI cZ cB cM) 27 a (kg (kM cI cZ a) G) [.ref (a 0), .int x1]) (xQi D xcl 27 a ((f_M_fetch x1 G).1) (kg (kM cI cZ a) ((f_M_fetch x1 G).2))) 0 0 (xA 27 a) := by
  refine X_met (by decide) rfl (Nat.le_of_ble_eq_true rfl) hJ (fun Y s m args Γ => ?_)
  show X Y s m D xcl 27 a 3 (kg (kM cI cZ a) G) 0 [(0, .ref (a 0)), (1, .int x1)] []
  have E := f_M_fetch.eq_1 x1 G
  refine X_iload_n Γ d_M_fetch_0 rfl 1 rfl rfl ?_
  refine X_callSi (rest := []) Γ d_M_fetch_1 (m_M_isBroker l D _ _ _ _ hJ _ _ x1) w592 w593 w9 w594 e_M_isBroker ⟨by decide, by decide⟩ ⟨rfl, rfl⟩ rfl rfl (Nat.le_of_ble_eq_true rfl) rfl ?_
  refine X_if_eq (tgt := 15) Γ d_M_fetch_4 (by decide) rfl (fun h4 => ?_) (fun h4 => ?_)
  · replace E := E.trans (if_pos h4)
    refine X_iconst (v := 0) Γ d_M_fetch_15 (by decide) rfl ?_
    exact X_iretz Γ d_M_fetch_16 rfl (g_r E) (g_eq E)
  · replace E := E.trans (if_neg h4)
    refine X_aload_n Γ d_M_fetch_7 rfl 0 rfl rfl ?_
    refine X_iload_n Γ d_M_fetch_8 rfl 1 rfl rfl ?_
    refine X_callVi (rest := []) Γ d_M_fetch_9 (m_M_leads l D cI cZ cB cM a hJ G x1) (by decide) rfl rfl rfl w588 w590 s_M_leads w9 w591 e_M_leads ⟨by decide, by decide⟩ ⟨rfl, rfl⟩ rfl rfl (Nat.le_of_ble_eq_true rfl) rfl ?_
    refine X_if_eq (tgt := 17) Γ d_M_fetch_12 (by decide) rfl (fun h12 => ?_) (fun h12 => ?_)
    · replace E := E.trans (if_pos h12)
      refine X_aload_n Γ d_M_fetch_17 rfl 0 rfl rfl ?_
      refine X_get Γ d_M_fetch_18 (by decide) rfl rfl in_M 15 (by decide) w495 rfl rfl rfl ?_
      refine X_iload_n Γ d_M_fetch_21 rfl 1 rfl rfl ?_
      refine X_zald (v := (G 9 x1.toNatClampNeg)) Γ d_M_fetch_22 (by decide) rfl 1 rfl (isBM_in h4) rfl rfl ?_
      refine X_if_eq (tgt := 35) Γ d_M_fetch_23 (by decide) rfl (fun h23 => ?_) (fun h23 => ?_)
      · replace E := E.trans (if_pos h23)
        refine X_iconst (v := 0) Γ d_M_fetch_35 (by decide) rfl ?_
        exact X_iretz Γ d_M_fetch_36 rfl (g_r E) (g_eq E)
      · replace E := E.trans (if_neg h23)
        refine X_aload_n Γ d_M_fetch_26 rfl 0 rfl rfl ?_
        refine X_get Γ d_M_fetch_27 (by decide) rfl rfl in_M 17 (by decide) w497 rfl rfl rfl ?_
        refine X_iload_n Γ d_M_fetch_30 rfl 1 rfl rfl ?_
        refine X_iald (v := (G 11 x1.toNatClampNeg)) Γ d_M_fetch_31 (by decide) rfl 0 rfl (isBM_in h4) rfl rfl ?_
        refine X_if_ge (tgt := 37) Γ d_M_fetch_32 (by decide) rfl (fun h32 => ?_) (fun h32 => ?_)
        · replace E := E.trans (if_pos h32)
          refine X_aload_n Γ d_M_fetch_37 rfl 0 rfl rfl ?_
          refine X_get Γ d_M_fetch_38 (by decide) rfl rfl in_M 18 (by decide) w498 rfl rfl rfl ?_
          refine X_iload_n Γ d_M_fetch_41 rfl 1 rfl rfl ?_
          refine X_dup2 Γ d_M_fetch_42 rfl rfl rfl ?_
          refine X_iald (v := (G 12 x1.toNatClampNeg)) Γ d_M_fetch_43 (by decide) rfl 0 rfl (isBM_in h4) rfl rfl ?_
          refine X_iconst (v := 1) Γ d_M_fetch_44 (by decide) rfl ?_
          refine X_iadd Γ d_M_fetch_45 rfl ?_
          refine X_iast (kx := x1.toNatClampNeg) Γ d_M_fetch_46 (by decide) rfl 0 rfl (isBM_in h4) (fun _ => rfl) rfl rfl ?_
          refine X_aload_n Γ d_M_fetch_47 rfl 0 rfl rfl ?_
          refine X_get Γ d_M_fetch_48 (by decide) rfl rfl in_M 19 (by decide) w499 rfl rfl rfl ?_
          refine X_iload_n Γ d_M_fetch_51 rfl 1 rfl rfl ?_
          refine X_iconst (v := 1) Γ d_M_fetch_52 (by decide) rfl ?_
          refine X_zast (kx := x1.toNatClampNeg) Γ d_M_fetch_53 (by decide) rfl 1 rfl (isBM_in h4) rfl (fun _ => rfl) rfl rfl ?_
          refine X_aload_n Γ d_M_fetch_54 rfl 0 rfl rfl ?_
          refine X_iconst (v := 0) Γ d_M_fetch_55 (by decide) rfl ?_
          refine X_iload_n Γ d_M_fetch_56 rfl 1 rfl rfl ?_
          refine X_aload_n Γ d_M_fetch_57 rfl 0 rfl rfl ?_
          refine X_get Γ d_M_fetch_58 (by decide) rfl rfl in_M 17 (by decide) w497 rfl rfl rfl ?_
          refine X_iload_n Γ d_M_fetch_61 rfl 1 rfl rfl ?_
          refine X_iald (v := (G 11 x1.toNatClampNeg)) Γ d_M_fetch_62 (by decide) rfl 0 rfl (isBM_in h4) rfl rfl ?_
          refine X_aload_n Γ d_M_fetch_63 rfl 0 rfl rfl ?_
          refine X_get Γ d_M_fetch_64 (by decide) rfl rfl in_M 16 (by decide) w496 rfl rfl rfl ?_
          refine X_iload_n Γ d_M_fetch_67 rfl 1 rfl rfl ?_
          refine X_iald (v := (G 10 x1.toNatClampNeg)) Γ d_M_fetch_68 (by decide) rfl 0 rfl (isBM_in h4) rfl rfl ?_
          refine X_aload_n Γ d_M_fetch_69 rfl 0 rfl rfl ?_
          refine X_get Γ d_M_fetch_70 (by decide) rfl rfl in_M 18 (by decide) w498 rfl rfl rfl ?_
          refine X_iload_n Γ d_M_fetch_73 rfl 1 rfl rfl ?_
          refine X_iald (v := ((g2 G 12 x1.toNatClampNeg ((G 12 x1.toNatClampNeg) + 1)) 12 x1.toNatClampNeg)) Γ d_M_fetch_74 (by decide) rfl 0 rfl (isBM_in h4) rfl rfl ?_
          refine X_aload_n Γ d_M_fetch_75 rfl 0 rfl rfl ?_
          refine X_get Γ d_M_fetch_76 (by decide) rfl rfl in_M 9 (by decide) w489 rfl rfl rfl ?_
          refine X_aload_n Γ d_M_fetch_79 rfl 0 rfl rfl ?_
          refine X_get Γ d_M_fetch_80 (by decide) rfl rfl in_M 13 (by decide) w493 rfl rfl rfl ?_
          refine X_iload_n Γ d_M_fetch_83 rfl 1 rfl rfl ?_
          refine X_iald (v := (G 7 x1.toNatClampNeg)) Γ d_M_fetch_84 (by decide) rfl 0 rfl (isBM_in h4) rfl rfl ?_
          refine X_iald (v := (G 3 (G 7 x1.toNatClampNeg).toNatClampNeg)) Γ d_M_fetch_85 (by decide) rfl 0 rfl (hT.1 _ (vp_lt (isBM_in h4))) rfl rfl ?_
          refine X_aload_n Γ d_M_fetch_86 rfl 0 rfl rfl ?_
          refine X_get Γ d_M_fetch_87 (by decide) rfl rfl in_M 10 (by decide) w490 rfl rfl rfl ?_
          refine X_aload_n Γ d_M_fetch_90 rfl 0 rfl rfl ?_
          refine X_get Γ d_M_fetch_91 (by decide) rfl rfl in_M 13 (by decide) w493 rfl rfl rfl ?_
          refine X_iload_n Γ d_M_fetch_94 rfl 1 rfl rfl ?_
          refine X_iald (v := (G 7 x1.toNatClampNeg)) Γ d_M_fetch_95 (by decide) rfl 0 rfl (isBM_in h4) rfl rfl ?_
          refine X_iald (v := (G 4 (G 7 x1.toNatClampNeg).toNatClampNeg)) Γ d_M_fetch_96 (by decide) rfl 0 rfl (hT.1 _ (vp_lt (isBM_in h4))) rfl rfl ?_
          refine X_callVi (rest := []) Γ d_M_fetch_97 (m_M_send l D cI cZ cB cM a hJ (g2 (g2 G 12 x1.toNatClampNeg ((G 12 x1.toNatClampNeg) + 1)) 13 x1.toNatClampNeg 1) 0 x1 (G 11 x1.toNatClampNeg) (G 10 x1.toNatClampNeg) ((g2 G 12 x1.toNatClampNeg ((G 12 x1.toNatClampNeg) + 1)) 12 x1.toNatClampNeg) (G 3 (G 7 x1.toNatClampNeg).toNatClampNeg) (G 4 (G 7 x1.toNatClampNeg).toNatClampNeg) hc) (by decide) rfl rfl rfl w639 w641 s_M_send w9 w642 e_M_send ⟨by decide, by decide⟩ ⟨rfl, rfl⟩ rfl rfl (Nat.le_of_ble_eq_true rfl) rfl ?_
          refine X_istore_n Γ d_M_fetch_100 rfl (by decide) rfl rfl ?_
          refine X_iconst (v := 1) Γ d_M_fetch_101 (by decide) rfl ?_
          exact X_iretz Γ d_M_fetch_102 rfl (g_r E) (g_eq E)
        · replace E := E.trans (if_neg h32)
          refine X_iconst (v := 0) Γ d_M_fetch_35 (by decide) rfl ?_
          exact X_iretz Γ d_M_fetch_36 rfl (g_r E) (g_eq E)
    · replace E := E.trans (if_neg h12)
      refine X_iconst (v := 0) Γ d_M_fetch_15 (by decide) rfl ?_
      exact X_iretz Γ d_M_fetch_16 rfl (g_r E) (g_eq E)
def f_M_lose (x1 : Int32) (G : Nat → Nat → Int32) : Int32 × (Nat → Nat → Int32) := (if ((f_M_isMessage x1 G)) = 0 then (0, G) else (1, ((f_M_remove x1 G))))
theorem e_M_lose : y_M_lose.cls ≠ "java/lang/invoke/MethodHandle" ∧ y_M_lose.cls ≠ "java/lang/invoke/VarHandle" ∧ (parseMethodDescriptor y_M_lose.desc).map (fun d => d.parameters.length) = some 1 := by decide +kernel
set_option maxHeartbeats 4000000 in
set_option maxRecDepth 100000 in
theorem m_M_lose (l : Launch) (D : va_G) (cI cZ cB cM : ClassId) (a : Nat → Nat) (hJ : xJ 27 a) (G : Nat → Nat → Int32) (x1 : Int32) (hc : okK G) : Met l y_M_lose (Cond.code y_M_lose prog_8_method_22_code 2 (Option.some FieldType.boolean) :: wsBig) { frames := 2, cells := 0, slots := 0, locals := 44 } (xP D xcl (xty cI cZ cB cM) 27 a (kg (kM cI cZ a) G) [.ref (a 0), .int x1]) (xQi D xcl 27 a ((f_M_lose x1 G).1) (kg (kM cI cZ a) ((f_M_lose x1 G).2))) 0 0 (xA 27 a) := by
  refine X_met (by decide) rfl (Nat.le_of_ble_eq_true rfl) hJ (fun Y s m args Γ => ?_)
  show X Y s m D xcl 27 a 2 (kg (kM cI cZ a) G) 0 [(0, .ref (a 0)), (1, .int x1)] []
  have E := f_M_lose.eq_1 x1 G
  refine X_aload_n Γ d_M_lose_0 rfl 0 rfl rfl ?_
  refine X_iload_n Γ d_M_lose_1 rfl 1 rfl rfl ?_
  refine X_callVi (rest := []) Γ d_M_lose_2 (m_M_isMessage l D cI cZ cB cM a hJ G x1) (by decide) rfl rfl rfl w647 w649 s_M_isMessage w9 w650 e_M_isMessage ⟨by decide, by decide⟩ ⟨rfl, rfl⟩ rfl rfl (Nat.le_of_ble_eq_true rfl) rfl ?_
  refine X_if_ne (tgt := 10) Γ d_M_lose_5 (by decide) rfl (fun h5 => ?_) (fun h5 => ?_)
  · replace E := E.trans (if_neg h5)
    refine X_aload_n Γ d_M_lose_10 rfl 0 rfl rfl ?_
    refine X_iload_n Γ d_M_lose_11 rfl 1 rfl rfl ?_
    refine X_callVv (rest := []) Γ d_M_lose_12 (m_M_remove l D cI cZ cB cM a hJ G x1 hc (im_in h5)) (by decide) rfl rfl rfl w651 w653 s_M_remove w9 w654 e_M_remove ⟨by decide, by decide⟩ ⟨rfl, rfl⟩ rfl rfl (Nat.le_of_ble_eq_true rfl) rfl ?_
    refine X_iconst (v := 1) Γ d_M_lose_15 (by decide) rfl ?_
    exact X_iretz Γ d_M_lose_16 rfl (g_r E) (g_eq E)
  · replace E := E.trans (if_pos h5)
    refine X_iconst (v := 0) Γ d_M_lose_8 (by decide) rfl ?_
    exact X_iretz Γ d_M_lose_9 rfl (g_r E) (g_eq E)
def f_M_flight (G : Nat → Nat → Int32) : Int32 := (G 0 24)
theorem e_M_flight : y_M_flight.cls ≠ "java/lang/invoke/MethodHandle" ∧ y_M_flight.cls ≠ "java/lang/invoke/VarHandle" ∧ (parseMethodDescriptor y_M_flight.desc).map (fun d => d.parameters.length) = some 0 := by decide +kernel
set_option maxHeartbeats 4000000 in
set_option maxRecDepth 100000 in
theorem m_M_flight (l : Launch) (D : va_G) (cI cZ cB cM : ClassId) (a : Nat → Nat) (hJ : xJ 27 a) (G : Nat → Nat → Int32) : Met l y_M_flight (Cond.code y_M_flight prog_8_method_23_code 1 (Option.some FieldType.int) :: wsBig) { frames := 0, cells := 0, slots := 0, locals := 0 } (xP D xcl (xty cI cZ cB cM) 27 a (kg (kM cI cZ a) G) [.ref (a 0)]) (xQi D xcl 27 a (f_M_flight G) (kg (kM cI cZ a) G)) 0 0 (xA 27 a) := by
  refine X_met (by decide) rfl (Nat.le_of_ble_eq_true rfl) hJ (fun Y s m args Γ => ?_)
  show X Y s m D xcl 27 a 1 (kg (kM cI cZ a) G) 0 [(0, .ref (a 0))] []
  have E := f_M_flight.eq_1 G
  refine X_aload_n Γ d_M_flight_0 rfl 0 rfl rfl ?_
  refine X_get Γ d_M_flight_1 (by decide) rfl rfl in_M 24 (by decide) w504 rfl rfl rfl ?_
  exact X_ireti Γ d_M_flight_4 E.symm rfl
def f_M_message (x1 : Int32) (x2 : Int32) (G : Nat → Nat → Int32) : Int32 := (if ((f_M_isMessage x1 G)) = 0 then (-1) else (if x2 = 0 then (G 18 x1.toNatClampNeg) else (if x2 = 1 then (G 19 x1.toNatClampNeg) else (if x2 = 2 then (G 20 x1.toNatClampNeg) else (if x2 = 3 then (G 21 x1.toNatClampNeg) else (if x2 = 4 then (G 22 x1.toNatClampNeg) else (if x2 = 5 then (G 23 x1.toNatClampNeg) else (if x2 = 6 then (G 24 x1.toNatClampNeg) else (-1)))))))))
theorem e_M_message : y_M_message.cls ≠ "java/lang/invoke/MethodHandle" ∧ y_M_message.cls ≠ "java/lang/invoke/VarHandle" ∧ (parseMethodDescriptor y_M_message.desc).map (fun d => d.parameters.length) = some 2 := by decide +kernel
set_option maxHeartbeats 4000000 in
set_option maxRecDepth 100000 in
theorem m_M_message (l : Launch) (D : va_G) (cI cZ cB cM : ClassId) (a : Nat → Nat) (hJ : xJ 27 a) (G : Nat → Nat → Int32) (x1 : Int32) (x2 : Int32) (hc : okK G) : Met l y_M_message (Cond.code y_M_message prog_8_method_24_code 3 (Option.some FieldType.int) :: wsBig) { frames := 1, cells := 0, slots := 0, locals := 21 } (xP D xcl (xty cI cZ cB cM) 27 a (kg (kM cI cZ a) G) [.ref (a 0), .int x1, .int x2]) (xQi D xcl 27 a (f_M_message x1 x2 G) (kg (kM cI cZ a) G)) 0 0 (xA 27 a) := by
  refine X_met (by decide) rfl (Nat.le_of_ble_eq_true rfl) hJ (fun Y s m args Γ => ?_)
  show X Y s m D xcl 27 a 3 (kg (kM cI cZ a) G) 0 [(0, .ref (a 0)), (1, .int x1), (2, .int x2)] []
  have E := f_M_message.eq_1 x1 x2 G
  refine X_aload_n Γ d_M_message_0 rfl 0 rfl rfl ?_
  refine X_iload_n Γ d_M_message_1 rfl 1 rfl rfl ?_
  refine X_callVi (rest := []) Γ d_M_message_2 (m_M_isMessage l D cI cZ cB cM a hJ G x1) (by decide) rfl rfl rfl w647 w649 s_M_isMessage w9 w650 e_M_isMessage ⟨by decide, by decide⟩ ⟨rfl, rfl⟩ rfl rfl (Nat.le_of_ble_eq_true rfl) rfl ?_
  refine X_if_ne (tgt := 10) Γ d_M_message_5 (by decide) rfl (fun h5 => ?_) (fun h5 => ?_)
  · replace E := E.trans (if_neg h5)
    refine X_iload_n Γ d_M_message_10 rfl 2 rfl rfl ?_
    by_cases h11_0 : x2 = 0
    · replace E := E.trans (if_pos h11_0)
      refine X_tableIn (pc' := 52) (off := 41) Γ d_M_message_11 h11_0 (by decide) (by decide) (by decide) (by decide) ?_
      refine X_aload_n Γ d_M_message_52 rfl 0 rfl rfl ?_
      refine X_get Γ d_M_message_53 (by decide) rfl rfl in_M 25 (by decide) w505 rfl rfl rfl ?_
      refine X_iload_n Γ d_M_message_56 rfl 1 rfl rfl ?_
      refine X_iald (v := (G 18 x1.toNatClampNeg)) Γ d_M_message_57 (by decide) rfl 0 rfl (im_in8 hc h5) rfl rfl ?_
      exact X_ireti Γ d_M_message_58 E.symm rfl
    replace E := E.trans (if_neg h11_0)
    by_cases h11_1 : x2 = 1
    · replace E := E.trans (if_pos h11_1)
      refine X_tableIn (pc' := 59) (off := 48) Γ d_M_message_11 h11_1 (by decide) (by decide) (by decide) (by decide) ?_
      refine X_aload_n Γ d_M_message_59 rfl 0 rfl rfl ?_
      refine X_get Γ d_M_message_60 (by decide) rfl rfl in_M 26 (by decide) w506 rfl rfl rfl ?_
      refine X_iload_n Γ d_M_message_63 rfl 1 rfl rfl ?_
      refine X_iald (v := (G 19 x1.toNatClampNeg)) Γ d_M_message_64 (by decide) rfl 0 rfl (im_in8 hc h5) rfl rfl ?_
      exact X_ireti Γ d_M_message_65 E.symm rfl
    replace E := E.trans (if_neg h11_1)
    by_cases h11_2 : x2 = 2
    · replace E := E.trans (if_pos h11_2)
      refine X_tableIn (pc' := 66) (off := 55) Γ d_M_message_11 h11_2 (by decide) (by decide) (by decide) (by decide) ?_
      refine X_aload_n Γ d_M_message_66 rfl 0 rfl rfl ?_
      refine X_get Γ d_M_message_67 (by decide) rfl rfl in_M 27 (by decide) w507 rfl rfl rfl ?_
      refine X_iload_n Γ d_M_message_70 rfl 1 rfl rfl ?_
      refine X_iald (v := (G 20 x1.toNatClampNeg)) Γ d_M_message_71 (by decide) rfl 0 rfl (im_in8 hc h5) rfl rfl ?_
      exact X_ireti Γ d_M_message_72 E.symm rfl
    replace E := E.trans (if_neg h11_2)
    by_cases h11_3 : x2 = 3
    · replace E := E.trans (if_pos h11_3)
      refine X_tableIn (pc' := 73) (off := 62) Γ d_M_message_11 h11_3 (by decide) (by decide) (by decide) (by decide) ?_
      refine X_aload_n Γ d_M_message_73 rfl 0 rfl rfl ?_
      refine X_get Γ d_M_message_74 (by decide) rfl rfl in_M 28 (by decide) w508 rfl rfl rfl ?_
      refine X_iload_n Γ d_M_message_77 rfl 1 rfl rfl ?_
      refine X_iald (v := (G 21 x1.toNatClampNeg)) Γ d_M_message_78 (by decide) rfl 0 rfl (im_in8 hc h5) rfl rfl ?_
      exact X_ireti Γ d_M_message_79 E.symm rfl
    replace E := E.trans (if_neg h11_3)
    by_cases h11_4 : x2 = 4
    · replace E := E.trans (if_pos h11_4)
      refine X_tableIn (pc' := 80) (off := 69) Γ d_M_message_11 h11_4 (by decide) (by decide) (by decide) (by decide) ?_
      refine X_aload_n Γ d_M_message_80 rfl 0 rfl rfl ?_
      refine X_get Γ d_M_message_81 (by decide) rfl rfl in_M 29 (by decide) w509 rfl rfl rfl ?_
      refine X_iload_n Γ d_M_message_84 rfl 1 rfl rfl ?_
      refine X_iald (v := (G 22 x1.toNatClampNeg)) Γ d_M_message_85 (by decide) rfl 0 rfl (im_in8 hc h5) rfl rfl ?_
      exact X_ireti Γ d_M_message_86 E.symm rfl
    replace E := E.trans (if_neg h11_4)
    by_cases h11_5 : x2 = 5
    · replace E := E.trans (if_pos h11_5)
      refine X_tableIn (pc' := 87) (off := 76) Γ d_M_message_11 h11_5 (by decide) (by decide) (by decide) (by decide) ?_
      refine X_aload_n Γ d_M_message_87 rfl 0 rfl rfl ?_
      refine X_get Γ d_M_message_88 (by decide) rfl rfl in_M 30 (by decide) w510 rfl rfl rfl ?_
      refine X_iload_n Γ d_M_message_91 rfl 1 rfl rfl ?_
      refine X_iald (v := (G 23 x1.toNatClampNeg)) Γ d_M_message_92 (by decide) rfl 0 rfl (im_in8 hc h5) rfl rfl ?_
      exact X_ireti Γ d_M_message_93 E.symm rfl
    replace E := E.trans (if_neg h11_5)
    by_cases h11_6 : x2 = 6
    · replace E := E.trans (if_pos h11_6)
      refine X_tableIn (pc' := 94) (off := 83) Γ d_M_message_11 h11_6 (by decide) (by decide) (by decide) (by decide) ?_
      refine X_aload_n Γ d_M_message_94 rfl 0 rfl rfl ?_
      refine X_get Γ d_M_message_95 (by decide) rfl rfl in_M 31 (by decide) w511 rfl rfl rfl ?_
      refine X_iload_n Γ d_M_message_98 rfl 1 rfl rfl ?_
      refine X_iald (v := (G 24 x1.toNatClampNeg)) Γ d_M_message_99 (by decide) rfl 0 rfl (im_in8 hc h5) rfl rfl ?_
      exact X_ireti Γ d_M_message_100 E.symm rfl
    replace E := E.trans (if_neg h11_6)
    refine X_tableOut (pc' := 101) Γ d_M_message_11 (tb_0_6 h11_0 h11_1 h11_2 h11_3 h11_4 h11_5 h11_6) (by decide) ?_
    refine X_iconst (v := (-1)) Γ d_M_message_101 (by decide) rfl ?_
    exact X_ireti Γ d_M_message_102 E.symm rfl
  · replace E := E.trans (if_pos h5)
    refine X_iconst (v := (-1)) Γ d_M_message_8 (by decide) rfl ?_
    exact X_ireti Γ d_M_message_9 E.symm rfl
