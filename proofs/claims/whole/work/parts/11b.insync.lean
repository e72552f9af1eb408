def f_I_produce (x1 : Int32) (x2 : Int32) (G : Nat → Nat → Int32) : Int32 × (Nat → Nat → Int32) := (if ((f_I_isLeading x1 G)) = 0 then ((-1), G) else (((f_I_append (2 + x1.toNatClampNeg) (G (2 + x1.toNatClampNeg) 5) x2 G).1), ((f_I_append (2 + x1.toNatClampNeg) (G (2 + x1.toNatClampNeg) 5) x2 G).2)))
theorem e_I_produce : y_I_produce.cls ≠ "java/lang/invoke/MethodHandle" ∧ y_I_produce.cls ≠ "java/lang/invoke/VarHandle" ∧ (parseMethodDescriptor y_I_produce.desc).map (fun d => d.parameters.length) = some 2 := by decide +kernel
set_option maxHeartbeats 4000000 in
set_option maxRecDepth 100000 in
theorem m_I_produce (l : Launch) (D : va_G) (cI cZ cB cM : ClassId) (a : Nat → Nat) (hJ : xJ 56 a) (P : Nat → Nat) (G : Nat → Nat → Int32) (x1 : Int32) (x2 : Int32) (hE : ∀ j : Nat, j < 4 → okL G (2 + j + 4)) : Met l y_I_produce (Cond.code y_I_produce prog_1_method_2_code 3 (Option.some FieldType.int) :: wsBig) { frames := 3, cells := 0, slots := 0, locals := 66 } (xP D xcl (xty cI cZ cB cM) 56 a (kg (kC cI cB cM a P) G) [.ref (a 0), .int x1, .int x2]) (xQi D xcl 56 a ((f_I_produce x1 x2 G).1) (kg (kC cI cB cM a P) ((f_I_produce x1 x2 G).2))) 0 0 (xA 56 a) := by
  refine X_met (by decide) rfl (Nat.le_of_ble_eq_true rfl) hJ (fun Y s m args Γ => ?_)
  show X Y s m D xcl 56 a 3 (kg (kC cI cB cM a P) G) 0 [(0, .ref (a 0)), (1, .int x1), (2, .int x2)] []
  have E := f_I_produce.eq_1 x1 x2 G
  refine X_aload_n Γ d_I_produce_0 rfl 0 rfl rfl ?_
  refine X_iload_n Γ d_I_produce_1 rfl 1 rfl rfl ?_
  refine X_callVi (rest := []) Γ d_I_produce_2 (m_I_isLeading l D cI cZ cB cM a hJ P G x1) (by decide) kC_I rfl rfl w221 w223 s_I_isLeading w1 w224 e_I_isLeading ⟨by decide, by decide⟩ ⟨rfl, rfl⟩ rfl rfl (Nat.le_of_ble_eq_true rfl) rfl ?_
  refine X_if_ne (tgt := 10) Γ d_I_produce_5 (by decide) rfl (fun h5 => ?_) (fun h5 => ?_)
  · replace E := E.trans (if_neg h5)
    refine X_aload_n Γ d_I_produce_10 rfl 0 rfl rfl ?_
    refine X_aload_n Γ d_I_produce_11 rfl 0 rfl rfl ?_
    refine X_get Γ d_I_produce_12 (by decide) kC_I rfl in_I 3 (by decide) w198 rfl rfl rfl ?_
    refine X_iload_n Γ d_I_produce_15 rfl 1 rfl rfl ?_
    refine X_aald Γ d_I_produce_16 (by decide) kC_BA 2 rfl (isLd_in h5) rfl rfl ?_
    refine X_aload_n Γ d_I_produce_17 rfl 0 rfl rfl ?_
    refine X_get Γ d_I_produce_18 (by decide) kC_I rfl in_I 3 (by decide) w198 rfl rfl rfl ?_
    refine X_iload_n Γ d_I_produce_21 rfl 1 rfl rfl ?_
    refine X_aald Γ d_I_produce_22 (by decide) kC_BA 2 rfl (isLd_in h5) rfl rfl ?_
    refine X_getN Γ d_I_produce_23 (Nat.lt_of_lt_of_le (Nat.add_lt_add_left (vp_lt (isLd_in h5)) 2) (by decide : 6 ≤ 56)) (kC_B (Nat.le_add_right 2 _) (Nat.add_lt_add_left (vp_lt (isLd_in h5)) 2)) rfl in_B 5 (by decide) w157 rfl rfl rfl ?_
    refine X_iload_n Γ d_I_produce_26 rfl 2 rfl rfl ?_
    refine X_callVi (rest := []) Γ d_I_produce_27 (m_I_append l D cI cZ cB cM a hJ P G (2 + x1.toNatClampNeg) (Nat.le_add_right 2 _) (Nat.add_lt_add_left (vp_lt (isLd_in h5)) 2) (G (2 + x1.toNatClampNeg) 5) x2 (hE _ (vp_lt (isLd_in h5)))) (by decide) kC_I rfl rfl w232 w234 s_I_append w1 w235 e_I_append ⟨by decide, by decide⟩ ⟨rfl, rfl⟩ rfl rfl (Nat.le_of_ble_eq_true rfl) rfl ?_
    exact X_ireti Γ d_I_produce_30 (g_r E) (g_eq E)
  · replace E := E.trans (if_pos h5)
    refine X_iconst (v := (-1)) Γ d_I_produce_8 (by decide) rfl ?_
    exact X_ireti Γ d_I_produce_9 (g_r E) (g_eq E)
def f_I_commit (x1 : Int32) (x2 : Int32) (G : Nat → Nat → Int32) : Int32 × (Nat → Nat → Int32) := (if ((f_I_isLeading x1 G)) = 0 then ((-1), G) else (if x2 < 0 then ((-1), G) else (if x2 ≤ (G (2 + x1.toNatClampNeg) 7) then (((f_I_append (2 + x1.toNatClampNeg) (-(G (2 + x1.toNatClampNeg) 5)) x2 G).1), ((f_I_append (2 + x1.toNatClampNeg) (-(G (2 + x1.toNatClampNeg) 5)) x2 G).2)) else ((-1), G))))
theorem e_I_commit : y_I_commit.cls ≠ "java/lang/invoke/MethodHandle" ∧ y_I_commit.cls ≠ "java/lang/invoke/VarHandle" ∧ (parseMethodDescriptor y_I_commit.desc).map (fun d => d.parameters.length) = some 2 := by decide +kernel
set_option maxHeartbeats 4000000 in
set_option maxRecDepth 100000 in
theorem m_I_commit (l : Launch) (D : va_G) (cI cZ cB cM : ClassId) (a : Nat → Nat) (hJ : xJ 56 a) (P : Nat → Nat) (G : Nat → Nat → Int32) (x1 : Int32) (x2 : Int32) (hE : ∀ j : Nat, j < 4 → okL G (2 + j + 4)) : Met l y_I_commit (Cond.code y_I_commit prog_1_method_3_code 3 (Option.some FieldType.int) :: wsBig) { frames := 3, cells := 0, slots := 0, locals := 66 } (xP D xcl (xty cI cZ cB cM) 56 a (kg (kC cI cB cM a P) G) [.ref (a 0), .int x1, .int x2]) (xQi D xcl 56 a ((f_I_commit x1 x2 G).1) (kg (kC cI cB cM a P) ((f_I_commit x1 x2 G).2))) 0 0 (xA 56 a) := by
  refine X_met (by decide) rfl (Nat.le_of_ble_eq_true rfl) hJ (fun Y s m args Γ => ?_)
  show X Y s m D xcl 56 a 3 (kg (kC cI cB cM a P) G) 0 [(0, .ref (a 0)), (1, .int x1), (2, .int x2)] []
  have E := f_I_commit.eq_1 x1 x2 G
  refine X_aload_n Γ d_I_commit_0 rfl 0 rfl rfl ?_
  refine X_iload_n Γ d_I_commit_1 rfl 1 rfl rfl ?_
  refine X_callVi (rest := []) Γ d_I_commit_2 (m_I_isLeading l D cI cZ cB cM a hJ P G x1) (by decide) kC_I rfl rfl w221 w223 s_I_isLeading w1 w224 e_I_isLeading ⟨by decide, by decide⟩ ⟨rfl, rfl⟩ rfl rfl (Nat.le_of_ble_eq_true rfl) rfl ?_
  refine X_if_eq (tgt := 25) Γ d_I_commit_5 (by decide) rfl (fun h5 => ?_) (fun h5 => ?_)
  · replace E := E.trans (if_pos h5)
    refine X_iconst (v := (-1)) Γ d_I_commit_25 (by decide) rfl ?_
    exact X_ireti Γ d_I_commit_26 (g_r E) (g_eq E)
  · replace E := E.trans (if_neg h5)
    refine X_iload_n Γ d_I_commit_8 rfl 2 rfl rfl ?_
    refine X_if_lt (tgt := 25) Γ d_I_commit_9 (by decide) rfl (fun h9 => ?_) (fun h9 => ?_)
    · replace E := E.trans (if_pos h9)
      refine X_iconst (v := (-1)) Γ d_I_commit_25 (by decide) rfl ?_
      exact X_ireti Γ d_I_commit_26 (g_r E) (g_eq E)
    · replace E := E.trans (if_neg h9)
      refine X_iload_n Γ d_I_commit_12 rfl 2 rfl rfl ?_
      refine X_aload_n Γ d_I_commit_13 rfl 0 rfl rfl ?_
      refine X_get Γ d_I_commit_14 (by decide) kC_I rfl in_I 3 (by decide) w198 rfl rfl rfl ?_
      refine X_iload_n Γ d_I_commit_17 rfl 1 rfl rfl ?_
      refine X_aald Γ d_I_commit_18 (by decide) kC_BA 2 rfl (isLd_in h5) rfl rfl ?_
      refine X_getN Γ d_I_commit_19 (Nat.lt_of_lt_of_le (Nat.add_lt_add_left (vp_lt (isLd_in h5)) 2) (by decide : 6 ≤ 56)) (kC_B (Nat.le_add_right 2 _) (Nat.add_lt_add_left (vp_lt (isLd_in h5)) 2)) rfl in_B 7 (by decide) w162 rfl rfl rfl ?_
      refine X_icmp_le (tgt := 27) Γ d_I_commit_22 (by decide) rfl (fun h22 => ?_) (fun h22 => ?_)
      · replace E := E.trans (if_pos h22)
        refine X_aload_n Γ d_I_commit_27 rfl 0 rfl rfl ?_
        refine X_aload_n Γ d_I_commit_28 rfl 0 rfl rfl ?_
        refine X_get Γ d_I_commit_29 (by decide) kC_I rfl in_I 3 (by decide) w198 rfl rfl rfl ?_
        refine X_iload_n Γ d_I_commit_32 rfl 1 rfl rfl ?_
        refine X_aald Γ d_I_commit_33 (by decide) kC_BA 2 rfl (isLd_in h5) rfl rfl ?_
        refine X_aload_n Γ d_I_commit_34 rfl 0 rfl rfl ?_
        refine X_get Γ d_I_commit_35 (by decide) kC_I rfl in_I 3 (by decide) w198 rfl rfl rfl ?_
        refine X_iload_n Γ d_I_commit_38 rfl 1 rfl rfl ?_
        refine X_aald Γ d_I_commit_39 (by decide) kC_BA 2 rfl (isLd_in h5) rfl rfl ?_
        refine X_getN Γ d_I_commit_40 (Nat.lt_of_lt_of_le (Nat.add_lt_add_left (vp_lt (isLd_in h5)) 2) (by decide : 6 ≤ 56)) (kC_B (Nat.le_add_right 2 _) (Nat.add_lt_add_left (vp_lt (isLd_in h5)) 2)) rfl in_B 5 (by decide) w157 rfl rfl rfl ?_
        refine X_ineg Γ d_I_commit_43 rfl ?_
        refine X_iload_n Γ d_I_commit_44 rfl 2 rfl rfl ?_
        refine X_callVi (rest := []) Γ d_I_commit_45 (m_I_append l D cI cZ cB cM a hJ P G (2 + x1.toNatClampNeg) (Nat.le_add_right 2 _) (Nat.add_lt_add_left (vp_lt (isLd_in h5)) 2) (-(G (2 + x1.toNatClampNeg) 5)) x2 (hE _ (vp_lt (isLd_in h5)))) (by decide) kC_I rfl rfl w232 w234 s_I_append w1 w235 e_I_append ⟨by decide, by decide⟩ ⟨rfl, rfl⟩ rfl rfl (Nat.le_of_ble_eq_true rfl) rfl ?_
        exact X_ireti Γ d_I_commit_48 (g_r E) (g_eq E)
      · replace E := E.trans (if_neg h22)
        refine X_iconst (v := (-1)) Γ d_I_commit_25 (by decide) rfl ?_
        exact X_ireti Γ d_I_commit_26 (g_r E) (g_eq E)
def f_I_readable (x1 : Int32) (x2 : Int32) (G : Nat → Nat → Int32) : Int32 := (if ((f_I_isLeading x1 G)) = 0 then 0 else (if (G (2 + x1.toNatClampNeg) 7) ≤ x2 then 0 else (if ((f_L_has (2 + x1.toNatClampNeg + 4) x2 G)) = 0 then 0 else (if ((f_L_isMark (2 + x1.toNatClampNeg + 4) x2 G)) = 0 then 1 else 2))))
theorem e_I_readable : y_I_readable.cls ≠ "java/lang/invoke/MethodHandle" ∧ y_I_readable.cls ≠ "java/lang/invoke/VarHandle" ∧ (parseMethodDescriptor y_I_readable.desc).map (fun d => d.parameters.length) = some 2 := by decide +kernel
set_option maxHeartbeats 4000000 in
set_option maxRecDepth 100000 in
theorem m_I_readable (l : Launch) (D : va_G) (cI cZ cB cM : ClassId) (a : Nat → Nat) (hJ : xJ 56 a) (P : Nat → Nat) (G : Nat → Nat → Int32) (x1 : Int32) (x2 : Int32) (hE : ∀ j : Nat, j < 4 → okL G (2 + j + 4)) : Met l y_I_readable (Cond.code y_I_readable prog_1_method_4_code 3 (Option.some FieldType.int) :: wsBig) { frames := 3, cells := 0, slots := 0, locals := 63 } (xP D xcl (xty cI cZ cB cM) 56 a (kg (kC cI cB cM a P) G) [.ref (a 0), .int x1, .int x2]) (xQi D xcl 56 a (f_I_readable x1 x2 G) (kg (kC cI cB cM a P) G)) 0 0 (xA 56 a) := by
  refine X_met (by decide) rfl (Nat.le_of_ble_eq_true rfl) hJ (fun Y s m args Γ => ?_)
  show X Y s m D xcl 56 a 3 (kg (kC cI cB cM a P) G) 0 [(0, .ref (a 0)), (1, .int x1), (2, .int x2)] []
  have E := f_I_readable.eq_1 x1 x2 G
  refine X_aload_n Γ d_I_readable_0 rfl 0 rfl rfl ?_
  refine X_iload_n Γ d_I_readable_1 rfl 1 rfl rfl ?_
  refine X_callVi (rest := []) Γ d_I_readable_2 (m_I_isLeading l D cI cZ cB cM a hJ P G x1) (by decide) kC_I rfl rfl w221 w223 s_I_isLeading w1 w224 e_I_isLeading ⟨by decide, by decide⟩ ⟨rfl, rfl⟩ rfl rfl (Nat.le_of_ble_eq_true rfl) rfl ?_
  refine X_if_eq (tgt := 37) Γ d_I_readable_5 (by decide) rfl (fun h5 => ?_) (fun h5 => ?_)
  · replace E := E.trans (if_pos h5)
    refine X_iconst (v := 0) Γ d_I_readable_37 (by decide) rfl ?_
    exact X_ireti Γ d_I_readable_38 E.symm rfl
  · replace E := E.trans (if_neg h5)
    refine X_iload_n Γ d_I_readable_8 rfl 2 rfl rfl ?_
    refine X_aload_n Γ d_I_readable_9 rfl 0 rfl rfl ?_
    refine X_get Γ d_I_readable_10 (by decide) kC_I rfl in_I 3 (by decide) w198 rfl rfl rfl ?_
    refine X_iload_n Γ d_I_readable_13 rfl 1 rfl rfl ?_
    refine X_aald Γ d_I_readable_14 (by decide) kC_BA 2 rfl (isLd_in h5) rfl rfl ?_
    refine X_getN Γ d_I_readable_15 (Nat.lt_of_lt_of_le (Nat.add_lt_add_left (vp_lt (isLd_in h5)) 2) (by decide : 6 ≤ 56)) (kC_B (Nat.le_add_right 2 _) (Nat.add_lt_add_left (vp_lt (isLd_in h5)) 2)) rfl in_B 7 (by decide) w162 rfl rfl rfl ?_
    refine X_icmp_ge (tgt := 37) Γ d_I_readable_18 (by decide) rfl (fun h18 => ?_) (fun h18 => ?_)
    · replace E := E.trans (if_pos h18)
      refine X_iconst (v := 0) Γ d_I_readable_37 (by decide) rfl ?_
      exact X_ireti Γ d_I_readable_38 E.symm rfl
    · replace E := E.trans (if_neg h18)
      refine X_aload_n Γ d_I_readable_21 rfl 0 rfl rfl ?_
      refine X_get Γ d_I_readable_22 (by decide) kC_I rfl in_I 3 (by decide) w198 rfl rfl rfl ?_
      refine X_iload_n Γ d_I_readable_25 rfl 1 rfl rfl ?_
      refine X_aald Γ d_I_readable_26 (by decide) kC_BA 2 rfl (isLd_in h5) rfl rfl ?_
      refine X_getN Γ d_I_readable_27 (Nat.lt_of_lt_of_le (Nat.add_lt_add_left (vp_lt (isLd_in h5)) 2) (by decide : 6 ≤ 56)) (kC_B (Nat.le_add_right 2 _) (Nat.add_lt_add_left (vp_lt (isLd_in h5)) 2)) rfl in_B 1 (by decide) w151 rfl rfl rfl ?_
      refine X_iload_n Γ d_I_readable_30 rfl 2 rfl rfl ?_
      refine X_callVNi (rest := []) Γ d_I_readable_31 (m_L_has l D cI cZ cB cM a hJ P G (2 + x1.toNatClampNeg + 4) (Nat.le_trans (by decide : 6 ≤ 2 + 4) (Nat.add_le_add_right (Nat.le_add_right 2 _) 4)) (Nat.lt_of_lt_of_le (Nat.add_lt_add_right (Nat.add_lt_add_left (vp_lt (isLd_in h5)) 2) 4) (by decide : 6 + 4 ≤ 10)) x2) (Nat.lt_of_lt_of_le (Nat.lt_of_lt_of_le (Nat.add_lt_add_right (Nat.add_lt_add_left (vp_lt (isLd_in h5)) 2) 4) (by decide : 6 + 4 ≤ 10)) (by decide : 10 ≤ 56)) (kC_L (Nat.le_trans (by decide : 6 ≤ 2 + 4) (Nat.add_le_add_right (Nat.le_add_right 2 _) 4)) (Nat.lt_of_lt_of_le (Nat.add_lt_add_right (Nat.add_lt_add_left (vp_lt (isLd_in h5)) 2) 4) (by decide : 6 + 4 ≤ 10))) rfl rfl w268 w270 s_L_has w7 w271 e_L_has ⟨by decide, by decide⟩ ⟨rfl, rfl⟩ rfl rfl (Nat.le_of_ble_eq_true rfl) rfl ?_
      refine X_if_ne (tgt := 39) Γ d_I_readable_34 (by decide) rfl (fun h34 => ?_) (fun h34 => ?_)
      · replace E := E.trans (if_neg h34)
        refine X_aload_n Γ d_I_readable_39 rfl 0 rfl rfl ?_
        refine X_get Γ d_I_readable_40 (by decide) kC_I rfl in_I 3 (by decide) w198 rfl rfl rfl ?_
        refine X_iload_n Γ d_I_readable_43 rfl 1 rfl rfl ?_
        refine X_aald Γ d_I_readable_44 (by decide) kC_BA 2 rfl (isLd_in h5) rfl rfl ?_
        refine X_getN Γ d_I_readable_45 (Nat.lt_of_lt_of_le (Nat.add_lt_add_left (vp_lt (isLd_in h5)) 2) (by decide : 6 ≤ 56)) (kC_B (Nat.le_add_right 2 _) (Nat.add_lt_add_left (vp_lt (isLd_in h5)) 2)) rfl in_B 1 (by decide) w151 rfl rfl rfl ?_
        refine X_iload_n Γ d_I_readable_48 rfl 2 rfl rfl ?_
        refine X_callVNi (rest := []) Γ d_I_readable_49 (m_L_isMark l D cI cZ cB cM a hJ P G (2 + x1.toNatClampNeg + 4) (Nat.le_trans (by decide : 6 ≤ 2 + 4) (Nat.add_le_add_right (Nat.le_add_right 2 _) 4)) (Nat.lt_of_lt_of_le (Nat.add_lt_add_right (Nat.add_lt_add_left (vp_lt (isLd_in h5)) 2) 4) (by decide : 6 + 4 ≤ 10)) x2 (hE _ (vp_lt (isLd_in h5)))) (Nat.lt_of_lt_of_le (Nat.lt_of_lt_of_le (Nat.add_lt_add_right (Nat.add_lt_add_left (vp_lt (isLd_in h5)) 2) 4) (by decide : 6 + 4 ≤ 10)) (by decide : 10 ≤ 56)) (kC_L (Nat.le_trans (by decide : 6 ≤ 2 + 4) (Nat.add_le_add_right (Nat.le_add_right 2 _) 4)) (Nat.lt_of_lt_of_le (Nat.add_lt_add_right (Nat.add_lt_add_left (vp_lt (isLd_in h5)) 2) 4) (by decide : 6 + 4 ≤ 10))) rfl rfl w272 w274 s_L_isMark w7 w275 e_L_isMark ⟨by decide, by decide⟩ ⟨rfl, rfl⟩ rfl rfl (Nat.le_of_ble_eq_true rfl) rfl ?_
        refine X_if_eq (tgt := 59) Γ d_I_readable_52 (by decide) rfl (fun h52 => ?_) (fun h52 => ?_)
        · replace E := E.trans (if_pos h52)
          refine X_iconst (v := 1) Γ d_I_readable_59 (by decide) rfl ?_
          exact X_ireti Γ d_I_readable_60 E.symm rfl
        · replace E := E.trans (if_neg h52)
          refine X_iconst (v := 2) Γ d_I_readable_55 (by decide) rfl ?_
          refine X_goto (pc' := 60) Γ d_I_readable_56 (by decide) ?_
          exact X_ireti Γ d_I_readable_60 E.symm rfl
      · replace E := E.trans (if_pos h34)
        refine X_iconst (v := 0) Γ d_I_readable_37 (by decide) rfl ?_
        exact X_ireti Γ d_I_readable_38 E.symm rfl
def f_I_committed_32 (x1 : Int32) (G : Nat → Nat → Int32) : Nat → Int32 → Int32
  | 0, v3_32 => 0
  | k32 + 1, v3_32 => (if v3_32 < 0 then (-1) else (if ((f_L_isMark (2 + x1.toNatClampNeg + 4) v3_32 G)) = 0 then (f_I_committed_32 x1 G k32 (v3_32 + (-1))) else ((f_L_valueOf (2 + x1.toNatClampNeg + 4) v3_32 G))))
def f_I_committed (x1 : Int32) (G : Nat → Nat → Int32) : Int32 := (if ((f_I_isLeading x1 G)) = 0 then (-1) else (f_I_committed_32 x1 G 42 ((G (2 + x1.toNatClampNeg) 7) - 1)))
theorem e_I_committed : y_I_committed.cls ≠ "java/lang/invoke/MethodHandle" ∧ y_I_committed.cls ≠ "java/lang/invoke/VarHandle" ∧ (parseMethodDescriptor y_I_committed.desc).map (fun d => d.parameters.length) = some 1 := by decide +kernel
set_option maxHeartbeats 4000000 in
set_option maxRecDepth 100000 in
theorem m_I_committed (l : Launch) (D : va_G) (cI cZ cB cM : ClassId) (a : Nat → Nat) (hJ : xJ 56 a) (P : Nat → Nat) (G : Nat → Nat → Int32) (x1 : Int32) (hE : ∀ j : Nat, j < 4 → okL G (2 + j + 4)) (hW : ∀ j : Nat, j < 4 → okW G (2 + j)) : Met l y_I_committed (Cond.code y_I_committed prog_1_method_5_code 4 (Option.some FieldType.int) :: wsBig) { frames := 3, cells := 0, slots := 0, locals := 63 } (xP D xcl (xty cI cZ cB cM) 56 a (kg (kC cI cB cM a P) G) [.ref (a 0), .int x1]) (xQi D xcl 56 a (f_I_committed x1 G) (kg (kC cI cB cM a P) G)) 0 0 (xA 56 a) := by
  refine X_met (by decide) rfl (Nat.le_of_ble_eq_true rfl) hJ (fun Y s m args Γ => ?_)
  show X Y s m D xcl 56 a 4 (kg (kC cI cB cM a P) G) 0 [(0, .ref (a 0)), (1, .int x1)] []
  have E := f_I_committed.eq_1 x1 G
  refine X_aload_n Γ d_I_committed_0 rfl 0 rfl rfl ?_
  refine X_iload_n Γ d_I_committed_1 rfl 1 rfl rfl ?_
  refine X_callVi (rest := []) Γ d_I_committed_2 (m_I_isLeading l D cI cZ cB cM a hJ P G x1) (by decide) kC_I rfl rfl w221 w223 s_I_isLeading w1 w224 e_I_isLeading ⟨by decide, by decide⟩ ⟨rfl, rfl⟩ rfl rfl (Nat.le_of_ble_eq_true rfl) rfl ?_
  refine X_if_ne (tgt := 10) Γ d_I_committed_5 (by decide) rfl (fun h5 => ?_) (fun h5 => ?_)
  · replace E := E.trans (if_neg h5)
    refine X_aload_n Γ d_I_committed_10 rfl 0 rfl rfl ?_
    refine X_get Γ d_I_committed_11 (by decide) kC_I rfl in_I 3 (by decide) w198 rfl rfl rfl ?_
    refine X_iload_n Γ d_I_committed_14 rfl 1 rfl rfl ?_
    refine X_aald Γ d_I_committed_15 (by decide) kC_BA 2 rfl (isLd_in h5) rfl rfl ?_
    refine X_getN Γ d_I_committed_16 (Nat.lt_of_lt_of_le (Nat.add_lt_add_left (vp_lt (isLd_in h5)) 2) (by decide : 6 ≤ 56)) (kC_B (Nat.le_add_right 2 _) (Nat.add_lt_add_left (vp_lt (isLd_in h5)) 2)) rfl in_B 1 (by decide) w151 rfl rfl rfl ?_
    refine X_astore_n Γ d_I_committed_19 rfl (by decide) rfl rfl ?_
    refine X_aload_n Γ d_I_committed_20 rfl 1 rfl rfl ?_
    refine X_get Γ d_I_committed_21 (by decide) kC_I rfl in_I 3 (by decide) w198 rfl rfl rfl ?_
    refine X_iload_n Γ d_I_committed_24 rfl 2 rfl rfl ?_
    refine X_aald Γ d_I_committed_25 (by decide) kC_BA 2 rfl (isLd_in h5) rfl rfl ?_
    refine X_getN Γ d_I_committed_26 (Nat.lt_of_lt_of_le (Nat.add_lt_add_left (vp_lt (isLd_in h5)) 2) (by decide : 6 ≤ 56)) (kC_B (Nat.le_add_right 2 _) (Nat.add_lt_add_left (vp_lt (isLd_in h5)) 2)) rfl in_B 7 (by decide) w162 rfl rfl rfl ?_
    refine X_iconst (v := 1) Γ d_I_committed_29 (by decide) rfl ?_
    refine X_isub Γ d_I_committed_30 rfl ?_
    refine X_istore_n Γ d_I_committed_31 rfl (by decide) rfl rfl ?_
    have J32 : ∀ (k32 : Nat) (v3_32 : Int32), (v3_32.toInt + 1 < k32 ∧ -1 ≤ v3_32.toInt) → f_I_committed x1 G = f_I_committed_32 x1 G k32 v3_32 → X Y s m D xcl 56 a 4 (kg (kC cI cB cM a P) G) 32 [(0, .ref (a 0)), (1, .int x1), (2, .ref (a (2 + x1.toNatClampNeg + 4))), (3, .int v3_32)] [] := by
      intro k32
      induction k32 with
      | zero => exact fun v3_32 hI32 _ => absurd hI32 (fun h => by omega)
      | succ k32 ih32 =>
        intro v3_32 hI32 E
        rw [f_I_committed_32] at E
        refine X_iload_n Γ d_I_committed_32 rfl 3 rfl rfl ?_
        refine X_if_lt (tgt := 56) Γ d_I_committed_33 (by decide) rfl (fun h33 => ?_) (fun h33 => ?_)
        · replace E := E.trans (if_pos h33)
          refine X_iconst (v := (-1)) Γ d_I_committed_56 (by decide) rfl ?_
          exact X_ireti Γ d_I_committed_57 E.symm rfl
        · replace E := E.trans (if_neg h33)
          refine X_aload_n Γ d_I_committed_36 rfl 2 rfl rfl ?_
          refine X_iload_n Γ d_I_committed_37 rfl 3 rfl rfl ?_
          refine X_callVNi (rest := []) Γ d_I_committed_38 (m_L_isMark l D cI cZ cB cM a hJ P G (2 + x1.toNatClampNeg + 4) (Nat.le_trans (by decide : 6 ≤ 2 + 4) (Nat.add_le_add_right (Nat.le_add_right 2 _) 4)) (Nat.lt_of_lt_of_le (Nat.add_lt_add_right (Nat.add_lt_add_left (vp_lt (isLd_in h5)) 2) 4) (by decide : 6 + 4 ≤ 10)) v3_32 (hE _ (vp_lt (isLd_in h5)))) (Nat.lt_of_lt_of_le (Nat.lt_of_lt_of_le (Nat.add_lt_add_right (Nat.add_lt_add_left (vp_lt (isLd_in h5)) 2) 4) (by decide : 6 + 4 ≤ 10)) (by decide : 10 ≤ 56)) (kC_L (Nat.le_trans (by decide : 6 ≤ 2 + 4) (Nat.add_le_add_right (Nat.le_add_right 2 _) 4)) (Nat.lt_of_lt_of_le (Nat.add_lt_add_right (Nat.add_lt_add_left (vp_lt (isLd_in h5)) 2) 4) (by decide : 6 + 4 ≤ 10))) rfl rfl w272 w274 s_L_isMark w7 w275 e_L_isMark ⟨by decide, by decide⟩ ⟨rfl, rfl⟩ rfl rfl (Nat.le_of_ble_eq_true rfl) rfl ?_
          refine X_if_eq (tgt := 50) Γ d_I_committed_41 (by decide) rfl (fun h41 => ?_) (fun h41 => ?_)
          · replace E := E.trans (if_pos h41)
            refine X_iinc (v := (v3_32 + (-1))) Γ d_I_committed_50 3 rfl rfl (by decide) rfl rfl ?_
            refine X_goto (pc' := 32) Γ d_I_committed_53 (by decide) ?_
            refine X_loc [1, 2, 3, 0] rfl ?_
            exact ih32 (v3_32 + (-1)) (cm_step hI32 h33) E
          · replace E := E.trans (if_neg h41)
            refine X_aload_n Γ d_I_committed_44 rfl 2 rfl rfl ?_
            refine X_iload_n Γ d_I_committed_45 rfl 3 rfl rfl ?_
            refine X_callVNi (rest := []) Γ d_I_committed_46 (m_L_valueOf l D cI cZ cB cM a hJ P G (2 + x1.toNatClampNeg + 4) (Nat.le_trans (by decide : 6 ≤ 2 + 4) (Nat.add_le_add_right (Nat.le_add_right 2 _) 4)) (Nat.lt_of_lt_of_le (Nat.add_lt_add_right (Nat.add_lt_add_left (vp_lt (isLd_in h5)) 2) 4) (by decide : 6 + 4 ≤ 10)) v3_32 (hE _ (vp_lt (isLd_in h5)))) (Nat.lt_of_lt_of_le (Nat.lt_of_lt_of_le (Nat.add_lt_add_right (Nat.add_lt_add_left (vp_lt (isLd_in h5)) 2) 4) (by decide : 6 + 4 ≤ 10)) (by decide : 10 ≤ 56)) (kC_L (Nat.le_trans (by decide : 6 ≤ 2 + 4) (Nat.add_le_add_right (Nat.le_add_right 2 _) 4)) (Nat.lt_of_lt_of_le (Nat.add_lt_add_right (Nat.add_lt_add_left (vp_lt (isLd_in h5)) 2) 4) (by decide : 6 + 4 ≤ 10))) rfl rfl w285 w287 s_L_valueOf w7 w288 e_L_valueOf ⟨by decide, by decide⟩ ⟨rfl, rfl⟩ rfl rfl (Nat.le_of_ble_eq_true rfl) rfl ?_
            exact X_ireti Γ d_I_committed_49 E.symm rfl
    refine X_loc [2, 3, 1, 0] rfl ?_
    exact J32 42 ((G (2 + x1.toNatClampNeg) 7) - 1) (cm_init (hW _ (vp_lt (isLd_in h5)))) E
  · replace E := E.trans (if_pos h5)
    refine X_iconst (v := (-1)) Γ d_I_committed_8 (by decide) rfl ?_
    exact X_ireti Γ d_I_committed_9 E.symm rfl
