def f_I_sendCut (n1_ : Nat) (n2_ : Nat) (G : Nat → Nat → Int32) (P : Nat → Nat) : (Nat → Nat → Int32) := ((f_H_send 1 n1_ (G n2_ 3) (G n2_ 6) ((f_L_countUpTo (n1_ + 4) (G n2_ 8) G)) ((f_L_epochOf (n1_ + 4) (((f_L_countUpTo (n1_ + 4) (G n2_ 8) G)) - 1) G)) G P).2)
theorem e_I_sendCut : y_I_sendCut.cls ≠ "java/lang/invoke/MethodHandle" ∧ y_I_sendCut.cls ≠ "java/lang/invoke/VarHandle" ∧ (parseMethodDescriptor y_I_sendCut.desc).map (fun d => d.parameters.length) = some 2 := by decide +kernel
set_option maxHeartbeats 4000000 in
set_option maxRecDepth 100000 in
theorem m_I_sendCut (l : Launch) (D : va_G) (cI cZ cB cM : ClassId) (a : Nat → Nat) (hJ : xJ 56 a) (P : Nat → Nat) (G : Nat → Nat → Int32) (n1_ : Nat) (n1_1 : 2 ≤ n1_) (n1_2 : n1_ < 6) (n2_ : Nat) (n2_1 : 29 ≤ n2_) (n2_2 : n2_ < 38) (hE : okL G (n1_ + 4)) (hP9 : ∀ j : Nat, j < 9 → P j < 9) (hc : okH G) : Met l y_I_sendCut (Cond.code y_I_sendCut prog_1_method_29_code 4 (Option.none : Option FieldType) :: wsBig) { frames := 4, cells := 0, slots := 0, locals := 85 } (xP D xcl (xty cI cZ cB cM) 56 a (kg (kC cI cB cM a P) G) [.ref (a 0), .ref (a n1_), .ref (a n2_)]) (xQv D xcl 56 a (kg (kC cI cB cM a P) (f_I_sendCut n1_ n2_ G P))) 0 0 (xA 56 a) := by
  refine X_met (by decide) rfl (Nat.le_of_ble_eq_true rfl) hJ (fun Y s m args Γ => ?_)
  show X Y s m D xcl 56 a 4 (kg (kC cI cB cM a P) G) 0 [(0, .ref (a 0)), (1, .ref (a n1_)), (2, .ref (a n2_))] []
  have E := f_I_sendCut.eq_1 n1_ n2_ G P
  refine X_aload_n Γ d_I_sendCut_0 rfl 1 rfl rfl ?_
  refine X_getN Γ d_I_sendCut_1 (Nat.lt_of_lt_of_le n1_2 (by decide : 6 ≤ 56)) (kC_B n1_1 n1_2) rfl in_B 1 (by decide) w151 rfl rfl rfl ?_
  refine X_aload_n Γ d_I_sendCut_4 rfl 2 rfl rfl ?_
  refine X_getN Γ d_I_sendCut_5 (Nat.lt_of_lt_of_le n2_2 (by decide : 38 ≤ 56)) (kC_G n2_1 n2_2) rfl in_G 8 (by decide) w90 rfl rfl rfl ?_
  refine X_callVNi (rest := []) Γ d_I_sendCut_8 (m_L_countUpTo l D cI cZ cB cM a hJ P G (n1_ + 4) (Nat.le_trans (by decide : 6 ≤ 2 + 4) (Nat.add_le_add_right n1_1 4)) (Nat.lt_of_lt_of_le (Nat.add_lt_add_right n1_2 4) (by decide : 6 + 4 ≤ 10)) (G n2_ 8) hE) (Nat.lt_of_lt_of_le (Nat.lt_of_lt_of_le (Nat.add_lt_add_right n1_2 4) (by decide : 6 + 4 ≤ 10)) (by decide : 10 ≤ 56)) (kC_L (Nat.le_trans (by decide : 6 ≤ 2 + 4) (Nat.add_le_add_right n1_1 4)) (Nat.lt_of_lt_of_le (Nat.add_lt_add_right n1_2 4) (by decide : 6 + 4 ≤ 10))) rfl rfl w351 w353 s_L_countUpTo w7 w354 e_L_countUpTo ⟨by decide, by decide⟩ ⟨rfl, rfl⟩ rfl rfl (Nat.le_of_ble_eq_true rfl) rfl ?_
  refine X_istore_n Γ d_I_sendCut_11 rfl (by decide) rfl rfl ?_
  refine X_aload_n Γ d_I_sendCut_12 rfl 1 rfl rfl ?_
  refine X_get Γ d_I_sendCut_13 (by decide) kC_I rfl in_I 5 (by decide) w200 rfl rfl rfl ?_
  refine X_iconst (v := 1) Γ d_I_sendCut_16 (by decide) rfl ?_
  refine X_aload_n Γ d_I_sendCut_17 rfl 2 rfl rfl ?_
  refine X_aload_n Γ d_I_sendCut_18 rfl 3 rfl rfl ?_
  refine X_getN Γ d_I_sendCut_19 (Nat.lt_of_lt_of_le n2_2 (by decide : 38 ≤ 56)) (kC_G n2_1 n2_2) rfl in_G 3 (by decide) w71 rfl rfl rfl ?_
  refine X_aload_n Γ d_I_sendCut_22 rfl 3 rfl rfl ?_
  refine X_getN Γ d_I_sendCut_23 (Nat.lt_of_lt_of_le n2_2 (by decide : 38 ≤ 56)) (kC_G n2_1 n2_2) rfl in_G 6 (by decide) w82 rfl rfl rfl ?_
  refine X_iload_n Γ d_I_sendCut_26 rfl 0 rfl rfl ?_
  refine X_aload_n Γ d_I_sendCut_27 rfl 2 rfl rfl ?_
  refine X_getN Γ d_I_sendCut_28 (Nat.lt_of_lt_of_le n1_2 (by decide : 6 ≤ 56)) (kC_B n1_1 n1_2) rfl in_B 1 (by decide) w151 rfl rfl rfl ?_
  refine X_iload_n Γ d_I_sendCut_31 rfl 0 rfl rfl ?_
  refine X_iconst (v := 1) Γ d_I_sendCut_32 (by decide) rfl ?_
  refine X_isub Γ d_I_sendCut_33 rfl ?_
  refine X_callVNi (rest := [.int ((f_L_countUpTo (n1_ + 4) (G n2_ 8) G)), .int (G n2_ 6), .int (G n2_ 3), .ref (a n1_), .int 1, .ref (a 27)]) Γ d_I_sendCut_34 (m_L_epochOf l D cI cZ cB cM a hJ P G (n1_ + 4) (Nat.le_trans (by decide : 6 ≤ 2 + 4) (Nat.add_le_add_right n1_1 4)) (Nat.lt_of_lt_of_le (Nat.add_lt_add_right n1_2 4) (by decide : 6 + 4 ≤ 10)) (((f_L_countUpTo (n1_ + 4) (G n2_ 8) G)) - 1) hE) (Nat.lt_of_lt_of_le (Nat.lt_of_lt_of_le (Nat.add_lt_add_right n1_2 4) (by decide : 6 + 4 ≤ 10)) (by decide : 10 ≤ 56)) (kC_L (Nat.le_trans (by decide : 6 ≤ 2 + 4) (Nat.add_le_add_right n1_1 4)) (Nat.lt_of_lt_of_le (Nat.add_lt_add_right n1_2 4) (by decide : 6 + 4 ≤ 10))) rfl rfl w355 w303 s_L_epochOf w7 w304 e_L_epochOf ⟨by decide, by decide⟩ ⟨rfl, rfl⟩ rfl rfl (Nat.le_of_ble_eq_true rfl) rfl ?_
  refine X_callVNq (rest := []) Γ d_I_sendCut_37 (m_H_send l D cI cZ cB cM a hJ P G 1 n1_ n1_1 n1_2 (G n2_ 3) (G n2_ 6) ((f_L_countUpTo (n1_ + 4) (G n2_ 8) G)) ((f_L_epochOf (n1_ + 4) (((f_L_countUpTo (n1_ + 4) (G n2_ 8) G)) - 1) G)) hP9 hc) (by decide) kC_H rfl rfl w308 w310 s_H_send w4 w311 e_H_send ⟨by decide, by decide⟩ ⟨rfl, rfl⟩ rfl rfl (Nat.le_of_ble_eq_true rfl) rfl ?_
  refine X_pop Γ d_I_sendCut_40 (va_rf_cat _) rfl ?_
  exact X_vret Γ d_I_sendCut_41 (gv_eq E)
