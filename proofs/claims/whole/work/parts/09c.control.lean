def f_T_begin (x1 : Int32) (x2 : Int32) (G : Nat → Nat → Int32) : Int32 × (Nat → Nat → Int32) := (1, (g2 (g2 (g2 G 26 1 x1) 26 2 x2) 26 0 (((g2 (g2 G 26 1 x1) 26 2 x2) 26 0) + 1)))
theorem e_T_begin : y_T_begin.cls ≠ "java/lang/invoke/MethodHandle" ∧ y_T_begin.cls ≠ "java/lang/invoke/VarHandle" ∧ (parseMethodDescriptor y_T_begin.desc).map (fun d => d.parameters.length) = some 2 := by decide +kernel
set_option maxHeartbeats 4000000 in
set_option maxRecDepth 100000 in
theorem m_T_begin (l : Launch) (D : va_G) (cI cZ cB cM : ClassId) (a : Nat → Nat) (hJ : xJ 56 a) (P : Nat → Nat) (G : Nat → Nat → Int32) (x1 : Int32) (x2 : Int32) : Met l y_T_begin (Cond.code y_T_begin prog_4_method_3_code 3 (Option.some FieldType.boolean) :: wsBig) { frames := 0, cells := 0, slots := 0, locals := 0 } (xP D xcl (xty cI cZ cB cM) 56 a (kg (kC cI cB cM a P) G) [.ref (a 26), .int x1, .int x2]) (xQi D xcl 56 a ((f_T_begin x1 x2 G).1) (kg (kC cI cB cM a P) ((f_T_begin x1 x2 G).2))) 0 0 (xA 56 a) := by
  refine X_met (by decide) rfl (Nat.le_of_ble_eq_true rfl) hJ (fun Y s m args Γ => ?_)
  show X Y s m D xcl 56 a 3 (kg (kC cI cB cM a P) G) 0 [(0, .ref (a 26)), (1, .int x1), (2, .int x2)] []
  have E := f_T_begin.eq_1 x1 x2 G
  refine X_aload_n Γ d_T_begin_0 rfl 0 rfl rfl ?_
  refine X_iload_n Γ d_T_begin_1 rfl 1 rfl rfl ?_
  refine X_put (ty := .int) Γ d_T_begin_2 (by decide) kC_T rfl in_T 1 (by decide) w37 rfl ty_T ty_T_ok nm_T rfl (by decide +kernel) rfl rfl (Nat.le_of_ble_eq_true rfl) kp_T_1 rfl ?_
  refine X_aload_n Γ d_T_begin_5 rfl 0 rfl rfl ?_
  refine X_iload_n Γ d_T_begin_6 rfl 2 rfl rfl ?_
  refine X_put (ty := .int) Γ d_T_begin_7 (by decide) kC_T rfl in_T 2 (by decide) w40 rfl ty_T ty_T_ok nm_T rfl (by decide +kernel) rfl rfl (Nat.le_of_ble_eq_true rfl) kp_T_2 rfl ?_
  refine X_aload_n Γ d_T_begin_10 rfl 0 rfl rfl ?_
  refine X_dup Γ d_T_begin_11 rfl rfl ?_
  refine X_get Γ d_T_begin_12 (by decide) kC_T rfl in_T 0 (by decide) w34 rfl rfl rfl ?_
  refine X_iconst (v := 1) Γ d_T_begin_15 (by decide) rfl ?_
  refine X_iadd Γ d_T_begin_16 rfl ?_
  refine X_put (ty := .int) Γ d_T_begin_17 (by decide) kC_T rfl in_T 0 (by decide) w34 rfl ty_T ty_T_ok nm_T rfl (by decide +kernel) rfl rfl (Nat.le_of_ble_eq_true rfl) kp_T_0 rfl ?_
  refine X_iconst (v := 1) Γ d_T_begin_20 (by decide) rfl ?_
  exact X_iretz Γ d_T_begin_21 rfl (g_r E) (g_eq E)
theorem nar_begin {x y : Int32} {G : Nat → Nat → Int32} : narrow .boolean (.int (f_T_begin x y G).1) = .int (f_T_begin x y G).1 := by
  unfold f_T_begin
  show narrow FieldType.boolean (Value.int 1) = Value.int 1
  rfl
def f_T_reactTo (x1 : Int32) (G : Nat → Nat → Int32) : Int32 × (Nat → Nat → Int32) := (jn (fun (t0_31 : Int32) => (if ((G 26 2) &&& x1) = 0 then (if (G 26 1) = (-1) then (0, G) else (if ((f_T_begin (-1) (G 26 2) G).1) = 0 then (0, ((f_T_begin (-1) (G 26 2) G).2)) else (1, ((f_T_begin (-1) (G 26 2) G).2)))) else (if t0_31 = 0 then (if t0_31 = 0 then (((f_T_begin ((f_I_leastOf ((G 26 2) &&& x1))) ((G 26 2) &&& x1) G).1), ((f_T_begin ((f_I_leastOf ((G 26 2) &&& x1))) ((G 26 2) &&& x1) G).2)) else (((f_T_begin (G 26 1) ((G 26 2) &&& x1) G).1), ((f_T_begin (G 26 1) ((G 26 2) &&& x1) G).2))) else (if ((G 26 2) &&& x1) = (G 26 2) then (0, G) else (if t0_31 = 0 then (((f_T_begin ((f_I_leastOf ((G 26 2) &&& x1))) ((G 26 2) &&& x1) G).1), ((f_T_begin ((f_I_leastOf ((G 26 2) &&& x1))) ((G 26 2) &&& x1) G).2)) else (((f_T_begin (G 26 1) ((G 26 2) &&& x1) G).1), ((f_T_begin (G 26 1) ((G 26 2) &&& x1) G).2))))))) (fun (j31 : Int32 → Int32 × (Nat → Nat → Int32)) => (if (G 26 1) = (-1) then (j31 0) else (if ((f_I_contains x1 (G 26 1))) = 0 then (j31 0) else (j31 1)))))
theorem e_T_reactTo : y_T_reactTo.cls ≠ "java/lang/invoke/MethodHandle" ∧ y_T_reactTo.cls ≠ "java/lang/invoke/VarHandle" ∧ (parseMethodDescriptor y_T_reactTo.desc).map (fun d => d.parameters.length) = some 1 := by decide +kernel
set_option maxHeartbeats 4000000 in
set_option maxRecDepth 100000 in
theorem m_T_reactTo (l : Launch) (D : va_G) (cI cZ cB cM : ClassId) (a : Nat → Nat) (hJ : xJ 56 a) (P : Nat → Nat) (G : Nat → Nat → Int32) (x1 : Int32) : Met l y_T_reactTo (Cond.code y_T_reactTo prog_4_method_2_code 4 (Option.some FieldType.boolean) :: wsBig) { frames := 2, cells := 0, slots := 0, locals := 42 } (xP D xcl (xty cI cZ cB cM) 56 a (kg (kC cI cB cM a P) G) [.ref (a 26), .int x1]) (xQi D xcl 56 a ((f_T_reactTo x1 G).1) (kg (kC cI cB cM a P) ((f_T_reactTo x1 G).2))) 0 0 (xA 56 a) := by
  refine X_met (by decide) rfl (Nat.le_of_ble_eq_true rfl) hJ (fun Y s m args Γ => ?_)
  show X Y s m D xcl 56 a 4 (kg (kC cI cB cM a P) G) 0 [(0, .ref (a 26)), (1, .int x1)] []
  have E := f_T_reactTo.eq_1 x1 G
  refine X_aload_n Γ d_T_reactTo_0 rfl 0 rfl rfl ?_
  refine X_get Γ d_T_reactTo_1 (by decide) kC_T rfl in_T 2 (by decide) w40 rfl rfl rfl ?_
  refine X_iload_n Γ d_T_reactTo_4 rfl 1 rfl rfl ?_
  refine X_iand Γ d_T_reactTo_5 rfl ?_
  refine X_istore_n Γ d_T_reactTo_6 rfl (by decide) rfl rfl ?_
  refine X_aload_n Γ d_T_reactTo_7 rfl 1 rfl rfl ?_
  refine X_get Γ d_T_reactTo_8 (by decide) kC_T rfl in_T 1 (by decide) w37 rfl rfl rfl ?_
  refine X_iconst (v := (-1)) Γ d_T_reactTo_11 (by decide) rfl ?_
  refine jn_open E (fun j31 ej31 E => ?_)
  have J31 : ∀ (t0_31 : Int32), (True) → f_T_reactTo x1 G = j31 t0_31 → X Y s m D xcl 56 a 4 (kg (kC cI cB cM a P) G) 31 [(0, .ref (a 26)), (1, .int x1), (2, .int ((G 26 2) &&& x1))] [.int t0_31] := by
    intro t0_31 hI31 E
    rw [ej31] at E
    refine X_istore_n Γ d_T_reactTo_31 rfl (by decide) rfl rfl ?_
    refine X_iload_n Γ d_T_reactTo_32 rfl 3 rfl rfl ?_
    refine X_if_ne (tgt := 62) Γ d_T_reactTo_33 (by decide) rfl (fun h33 => ?_) (fun h33 => ?_)
    · replace E := E.trans (if_neg h33)
      refine X_iload_n Γ d_T_reactTo_62 rfl 0 rfl rfl ?_
      refine X_if_eq (tgt := 76) Γ d_T_reactTo_63 (by decide) rfl (fun h63 => ?_) (fun h63 => ?_)
      · replace E := E.trans (if_pos h63)
        refine X_aload_n Γ d_T_reactTo_76 rfl 1 rfl rfl ?_
        refine X_iload_n Γ d_T_reactTo_77 rfl 0 rfl rfl ?_
        refine X_if_eq (tgt := 88) Γ d_T_reactTo_78 (by decide) rfl (fun h78 => ?_) (fun h78 => ?_)
        · replace E := E.trans (if_pos h78)
          refine X_iload_n Γ d_T_reactTo_88 rfl 3 rfl rfl ?_
          refine X_callSNi (rest := [.ref (a 26)]) Γ d_T_reactTo_89 (m_I_leastOf l D _ _ _ _ hJ _ _ ((G 26 2) &&& x1)) w439 w440 w1 w441 e_I_leastOf ⟨by decide, by decide⟩ ⟨rfl, rfl⟩ rfl rfl (Nat.le_of_ble_eq_true rfl) rfl ?_
          refine X_iload_n Γ d_T_reactTo_92 rfl 3 rfl rfl ?_
          refine X_callVi (rest := []) Γ d_T_reactTo_93 (m_T_begin l D cI cZ cB cM a hJ P G ((f_I_leastOf ((G 26 2) &&& x1))) ((G 26 2) &&& x1)) (by decide) kC_T rfl rfl w435 w437 s_T_begin w3 w438 e_T_begin ⟨by decide, by decide⟩ ⟨rfl, rfl⟩ rfl rfl (Nat.le_of_ble_eq_true rfl) rfl ?_
          exact X_iretz Γ d_T_reactTo_96 nar_begin (g_r E) (g_eq E)
        · replace E := E.trans (if_neg h78)
          refine X_aload_n Γ d_T_reactTo_81 rfl 1 rfl rfl ?_
          refine X_get Γ d_T_reactTo_82 (by decide) kC_T rfl in_T 1 (by decide) w37 rfl rfl rfl ?_
          refine X_goto (pc' := 92) Γ d_T_reactTo_85 (by decide) ?_
          refine X_iload_n Γ d_T_reactTo_92 rfl 3 rfl rfl ?_
          refine X_callVi (rest := []) Γ d_T_reactTo_93 (m_T_begin l D cI cZ cB cM a hJ P G (G 26 1) ((G 26 2) &&& x1)) (by decide) kC_T rfl rfl w435 w437 s_T_begin w3 w438 e_T_begin ⟨by decide, by decide⟩ ⟨rfl, rfl⟩ rfl rfl (Nat.le_of_ble_eq_true rfl) rfl ?_
          exact X_iretz Γ d_T_reactTo_96 nar_begin (g_r E) (g_eq E)
      · replace E := E.trans (if_neg h63)
        refine X_iload_n Γ d_T_reactTo_66 rfl 3 rfl rfl ?_
        refine X_aload_n Γ d_T_reactTo_67 rfl 1 rfl rfl ?_
        refine X_get Γ d_T_reactTo_68 (by decide) kC_T rfl in_T 2 (by decide) w40 rfl rfl rfl ?_
        refine X_icmp_ne (tgt := 76) Γ d_T_reactTo_71 (by decide) rfl (fun h71 => ?_) (fun h71 => ?_)
        · replace E := E.trans (if_neg h71)
          refine X_aload_n Γ d_T_reactTo_76 rfl 1 rfl rfl ?_
          refine X_iload_n Γ d_T_reactTo_77 rfl 0 rfl rfl ?_
          refine X_if_eq (tgt := 88) Γ d_T_reactTo_78 (by decide) rfl (fun h78 => ?_) (fun h78 => ?_)
          · replace E := E.trans (if_pos h78)
            refine X_iload_n Γ d_T_reactTo_88 rfl 3 rfl rfl ?_
            refine X_callSNi (rest := [.ref (a 26)]) Γ d_T_reactTo_89 (m_I_leastOf l D _ _ _ _ hJ _ _ ((G 26 2) &&& x1)) w439 w440 w1 w441 e_I_leastOf ⟨by decide, by decide⟩ ⟨rfl, rfl⟩ rfl rfl (Nat.le_of_ble_eq_true rfl) rfl ?_
            refine X_iload_n Γ d_T_reactTo_92 rfl 3 rfl rfl ?_
            refine X_callVi (rest := []) Γ d_T_reactTo_93 (m_T_begin l D cI cZ cB cM a hJ P G ((f_I_leastOf ((G 26 2) &&& x1))) ((G 26 2) &&& x1)) (by decide) kC_T rfl rfl w435 w437 s_T_begin w3 w438 e_T_begin ⟨by decide, by decide⟩ ⟨rfl, rfl⟩ rfl rfl (Nat.le_of_ble_eq_true rfl) rfl ?_
            exact X_iretz Γ d_T_reactTo_96 nar_begin (g_r E) (g_eq E)
          · replace E := E.trans (if_neg h78)
            refine X_aload_n Γ d_T_reactTo_81 rfl 1 rfl rfl ?_
            refine X_get Γ d_T_reactTo_82 (by decide) kC_T rfl in_T 1 (by decide) w37 rfl rfl rfl ?_
            refine X_goto (pc' := 92) Γ d_T_reactTo_85 (by decide) ?_
            refine X_iload_n Γ d_T_reactTo_92 rfl 3 rfl rfl ?_
            refine X_callVi (rest := []) Γ d_T_reactTo_93 (m_T_begin l D cI cZ cB cM a hJ P G (G 26 1) ((G 26 2) &&& x1)) (by decide) kC_T rfl rfl w435 w437 s_T_begin w3 w438 e_T_begin ⟨by decide, by decide⟩ ⟨rfl, rfl⟩ rfl rfl (Nat.le_of_ble_eq_true rfl) rfl ?_
            exact X_iretz Γ d_T_reactTo_96 nar_begin (g_r E) (g_eq E)
        · replace E := E.trans (if_pos h71)
          refine X_iconst (v := 0) Γ d_T_reactTo_74 (by decide) rfl ?_
          exact X_iretz Γ d_T_reactTo_75 rfl (g_r E) (g_eq E)
    · replace E := E.trans (if_pos h33)
      refine X_aload_n Γ d_T_reactTo_36 rfl 1 rfl rfl ?_
      refine X_get Γ d_T_reactTo_37 (by decide) kC_T rfl in_T 1 (by decide) w37 rfl rfl rfl ?_
      refine X_iconst (v := (-1)) Γ d_T_reactTo_40 (by decide) rfl ?_
      refine X_icmp_eq (tgt := 60) Γ d_T_reactTo_41 (by decide) rfl (fun h41 => ?_) (fun h41 => ?_)
      · replace E := E.trans (if_pos h41)
        refine X_iconst (v := 0) Γ d_T_reactTo_60 (by decide) rfl ?_
        exact X_iretz Γ d_T_reactTo_61 rfl (g_r E) (g_eq E)
      · replace E := E.trans (if_neg h41)
        refine X_aload_n Γ d_T_reactTo_44 rfl 1 rfl rfl ?_
        refine X_iconst (v := (-1)) Γ d_T_reactTo_45 (by decide) rfl ?_
        refine X_aload_n Γ d_T_reactTo_46 rfl 1 rfl rfl ?_
        refine X_get Γ d_T_reactTo_47 (by decide) kC_T rfl in_T 2 (by decide) w40 rfl rfl rfl ?_
        refine X_callVi (rest := []) Γ d_T_reactTo_50 (m_T_begin l D cI cZ cB cM a hJ P G (-1) (G 26 2)) (by decide) kC_T rfl rfl w435 w437 s_T_begin w3 w438 e_T_begin ⟨by decide, by decide⟩ ⟨rfl, rfl⟩ rfl rfl (Nat.le_of_ble_eq_true rfl) rfl ?_
        refine X_if_eq (tgt := 60) Γ d_T_reactTo_53 (by decide) rfl (fun h53 => ?_) (fun h53 => ?_)
        · replace E := E.trans (if_pos h53)
          refine X_iconst (v := 0) Γ d_T_reactTo_60 (by decide) rfl ?_
          exact X_iretz Γ d_T_reactTo_61 rfl (g_r E) (g_eq E)
        · replace E := E.trans (if_neg h53)
          refine X_iconst (v := 1) Γ d_T_reactTo_56 (by decide) rfl ?_
          refine X_goto (pc' := 61) Γ d_T_reactTo_57 (by decide) ?_
          exact X_iretz Γ d_T_reactTo_61 rfl (g_r E) (g_eq E)
  refine X_icmp_eq (tgt := 30) Γ d_T_reactTo_12 (by decide) rfl (fun h12 => ?_) (fun h12 => ?_)
  · replace E := E.trans (if_pos h12)
    refine X_iconst (v := 0) Γ d_T_reactTo_30 (by decide) rfl ?_
    refine X_loc [1, 2, 0] rfl ?_
    exact J31 0 trivial E
  · replace E := E.trans (if_neg h12)
    refine X_iload_n Γ d_T_reactTo_15 rfl 2 rfl rfl ?_
    refine X_aload_n Γ d_T_reactTo_16 rfl 1 rfl rfl ?_
    refine X_get Γ d_T_reactTo_17 (by decide) kC_T rfl in_T 1 (by decide) w37 rfl rfl rfl ?_
    refine X_callSNi (rest := []) Γ d_T_reactTo_20 (m_I_contains l D _ _ _ _ hJ _ _ x1 (G 26 1)) w434 w256 w1 w257 e_I_contains ⟨by decide, by decide⟩ ⟨rfl, rfl⟩ rfl rfl (Nat.le_of_ble_eq_true rfl) rfl ?_
    refine X_if_eq (tgt := 30) Γ d_T_reactTo_23 (by decide) rfl (fun h23 => ?_) (fun h23 => ?_)
    · replace E := E.trans (if_pos h23)
      refine X_iconst (v := 0) Γ d_T_reactTo_30 (by decide) rfl ?_
      refine X_loc [1, 2, 0] rfl ?_
      exact J31 0 trivial E
    · replace E := E.trans (if_neg h23)
      refine X_iconst (v := 1) Γ d_T_reactTo_26 (by decide) rfl ?_
      refine X_goto (pc' := 31) Γ d_T_reactTo_27 (by decide) ?_
      refine X_loc [1, 2, 0] rfl ?_
      exact J31 1 trivial E
