def f_B_accept (n : Nat) (n1_ : Nat) (G : Nat → Nat → Int32) : (Nat → Nat → Int32) := (if ((f_B_isExpecting n n1_ G)) = 0 then G else (if ((g2 G n 9 0) n1_ 2) = 1 then ((f_L_cutTo (n + 4) (if ((f_L_countUpTo (n + 4) ((g2 G n 9 0) n1_ 8) (g2 G n 9 0))) < ((g2 G n 9 0) n1_ 7) then ((f_L_countUpTo (n + 4) ((g2 G n 9 0) n1_ 8) (g2 G n 9 0))) else ((g2 G n 9 0) n1_ 7)) (g2 G n 9 0))) else (g2 ((f_G_appendRecords n1_ (n + 4) (g2 G n 9 0))) n 7 (if (((f_G_appendRecords n1_ (n + 4) (g2 G n 9 0))) n 7) < (if (((f_G_appendRecords n1_ (n + 4) (g2 G n 9 0))) (n + 4) 2) < (((f_G_appendRecords n1_ (n + 4) (g2 G n 9 0))) n1_ 8) then (((f_G_appendRecords n1_ (n + 4) (g2 G n 9 0))) (n + 4) 2) else (((f_G_appendRecords n1_ (n + 4) (g2 G n 9 0))) n1_ 8)) then (if (((f_G_appendRecords n1_ (n + 4) (g2 G n 9 0))) (n + 4) 2) < (((f_G_appendRecords n1_ (n + 4) (g2 G n 9 0))) n1_ 8) then (((f_G_appendRecords n1_ (n + 4) (g2 G n 9 0))) (n + 4) 2) else (((f_G_appendRecords n1_ (n + 4) (g2 G n 9 0))) n1_ 8)) else (((f_G_appendRecords n1_ (n + 4) (g2 G n 9 0))) n 7)))))
theorem e_B_accept : y_B_accept.cls ≠ "java/lang/invoke/MethodHandle" ∧ y_B_accept.cls ≠ "java/lang/invoke/VarHandle" ∧ (parseMethodDescriptor y_B_accept.desc).map (fun d => d.parameters.length) = some 1 := by decide +kernel
set_option maxHeartbeats 4000000 in
set_option maxRecDepth 100000 in
theorem m_B_accept (l : Launch) (D : va_G) (cI cZ cB cM : ClassId) (a : Nat → Nat) (hJ : xJ 56 a) (P : Nat → Nat) (G : Nat → Nat → Int32) (n : Nat) (n_1 : 2 ≤ n) (n_2 : n < 6) (n1_ : Nat) (n1_1 : 29 ≤ n1_) (n1_2 : n1_ < 38) (hE : okL G (n + 4)) : Met l y_B_accept (Cond.code y_B_accept prog_2_method_10_code 2 (Option.none : Option FieldType) :: wsBig) { frames := 4, cells := 0, slots := 0, locals := 85 } (xP D xcl (xty cI cZ cB cM) 56 a (kg (kC cI cB cM a P) G) [.ref (a n), .ref (a n1_)]) (xQv D xcl 56 a (kg (kC cI cB cM a P) (f_B_accept n n1_ G))) 0 0 (xA 56 a) := by
  refine X_met (by decide) rfl (Nat.le_of_ble_eq_true rfl) hJ (fun Y s m args Γ => ?_)
  show X Y s m D xcl 56 a 2 (kg (kC cI cB cM a P) G) 0 [(0, .ref (a n)), (1, .ref (a n1_))] []
  have E := f_B_accept.eq_1 n n1_ G
  refine X_aload_n Γ d_B_accept_0 rfl 0 rfl rfl ?_
  refine X_aload_n Γ d_B_accept_1 rfl 1 rfl rfl ?_
  refine X_callVi (rest := []) Γ d_B_accept_2 (m_B_isExpecting l D cI cZ cB cM a hJ P G n n_1 n_2 n1_ n1_1 n1_2) (Nat.lt_of_lt_of_le n_2 (by decide : 6 ≤ 56)) (kC_B n_1 n_2) rfl rfl w360 w362 s_B_isExpecting w6 w363 e_B_isExpecting ⟨by decide, by decide⟩ ⟨rfl, rfl⟩ rfl rfl (Nat.le_of_ble_eq_true rfl) rfl ?_
  refine X_if_ne (tgt := 9) Γ d_B_accept_5 (by decide) rfl (fun h5 => ?_) (fun h5 => ?_)
  · replace E := E.trans (if_neg h5)
    refine X_aload_n Γ d_B_accept_9 rfl 0 rfl rfl ?_
    refine X_iconst (v := 0) Γ d_B_accept_10 (by decide) rfl ?_
    refine X_put (ty := .boolean) Γ d_B_accept_11 (Nat.lt_of_lt_of_le n_2 (by decide : 6 ≤ 56)) (kC_B n_1 n_2) rfl in_B 9 (by decide) w165 rfl ty_B ty_B_ok nm_B rfl (by decide +kernel) rfl rfl (Nat.le_of_ble_eq_true rfl) (kp_B_9 n_1 n_2) rfl ?_
    refine X_aload_n Γ d_B_accept_14 rfl 1 rfl rfl ?_
    refine X_getN Γ d_B_accept_15 (Nat.lt_of_lt_of_le n1_2 (by decide : 38 ≤ 56)) (kC_G n1_1 n1_2) rfl in_G 2 (by decide) w68 rfl rfl rfl ?_
    refine X_iconst (v := 1) Γ d_B_accept_18 (by decide) rfl ?_
    refine X_icmp_ne (tgt := 50) Γ d_B_accept_19 (by decide) rfl (fun h19 => ?_) (fun h19 => ?_)
    · replace E := E.trans (if_neg h19)
      refine X_aload_n Γ d_B_accept_50 rfl 1 rfl rfl ?_
      refine X_aload_n Γ d_B_accept_51 rfl 0 rfl rfl ?_
      refine X_get Γ d_B_accept_52 (Nat.lt_of_lt_of_le n_2 (by decide : 6 ≤ 56)) (kC_B n_1 n_2) rfl in_B 1 (by decide) w150 rfl rfl rfl ?_
      refine X_callVNv (rest := []) Γ d_B_accept_55 (m_G_appendRecords l D cI cZ cB cM a hJ P (g2 G n 9 0) n1_ n1_1 n1_2 (n + 4) (Nat.le_trans (by decide : 6 ≤ 2 + 4) (Nat.add_le_add_right n_1 4)) (Nat.lt_of_lt_of_le (Nat.add_lt_add_right n_2 4) (by decide : 6 + 4 ≤ 10)) (okL_g2 hE (by omega))) (Nat.lt_of_lt_of_le n1_2 (by decide : 38 ≤ 56)) (kC_G n1_1 n1_2) rfl rfl w371 w373 s_G_appendRecords w5 w374 e_G_appendRecords ⟨by decide, by decide⟩ ⟨rfl, rfl⟩ rfl rfl (Nat.le_of_ble_eq_true rfl) rfl ?_
      refine X_aload_n Γ d_B_accept_58 rfl 0 rfl rfl ?_
      refine X_aload_n Γ d_B_accept_59 rfl 0 rfl rfl ?_
      refine X_get Γ d_B_accept_60 (Nat.lt_of_lt_of_le n_2 (by decide : 6 ≤ 56)) (kC_B n_1 n_2) rfl in_B 7 (by decide) w161 rfl rfl rfl ?_
      refine X_aload_n Γ d_B_accept_63 rfl 1 rfl rfl ?_
      refine X_getN Γ d_B_accept_64 (Nat.lt_of_lt_of_le n1_2 (by decide : 38 ≤ 56)) (kC_G n1_1 n1_2) rfl in_G 8 (by decide) w89 rfl rfl rfl ?_
      refine X_aload_n Γ d_B_accept_67 rfl 0 rfl rfl ?_
      refine X_get Γ d_B_accept_68 (Nat.lt_of_lt_of_le n_2 (by decide : 6 ≤ 56)) (kC_B n_1 n_2) rfl in_B 1 (by decide) w150 rfl rfl rfl ?_
      refine X_getN Γ d_B_accept_71 (Nat.lt_of_lt_of_le (Nat.lt_of_lt_of_le (Nat.add_lt_add_right n_2 4) (by decide : 6 + 4 ≤ 10)) (by decide : 10 ≤ 56)) (kC_L (Nat.le_trans (by decide : 6 ≤ 2 + 4) (Nat.add_le_add_right n_1 4)) (Nat.lt_of_lt_of_le (Nat.add_lt_add_right n_2 4) (by decide : 6 + 4 ≤ 10))) rfl in_L 2 (by decide) w136 rfl rfl rfl ?_
      refine X_mmin Γ d_B_accept_74 w258 w23 w2 w24 (by decide) (Nat.le_of_ble_eq_true rfl) rfl ?_
      refine X_mmax Γ d_B_accept_77 w259 w26 w2 w27 (by decide) (Nat.le_of_ble_eq_true rfl) rfl ?_
      refine X_put (ty := .int) Γ d_B_accept_80 (Nat.lt_of_lt_of_le n_2 (by decide : 6 ≤ 56)) (kC_B n_1 n_2) rfl in_B 7 (by decide) w161 rfl ty_B ty_B_ok nm_B rfl (by decide +kernel) rfl rfl (Nat.le_of_ble_eq_true rfl) (kp_B_7 n_1 n_2) rfl ?_
      exact X_vret Γ d_B_accept_83 (gv_eq E)
    · replace E := E.trans (if_pos h19)
      refine X_aload_n Γ d_B_accept_22 rfl 0 rfl rfl ?_
      refine X_get Γ d_B_accept_23 (Nat.lt_of_lt_of_le n_2 (by decide : 6 ≤ 56)) (kC_B n_1 n_2) rfl in_B 1 (by decide) w150 rfl rfl rfl ?_
      refine X_aload_n Γ d_B_accept_26 rfl 1 rfl rfl ?_
      refine X_getN Γ d_B_accept_27 (Nat.lt_of_lt_of_le n1_2 (by decide : 38 ≤ 56)) (kC_G n1_1 n1_2) rfl in_G 7 (by decide) w85 rfl rfl rfl ?_
      refine X_aload_n Γ d_B_accept_30 rfl 0 rfl rfl ?_
      refine X_get Γ d_B_accept_31 (Nat.lt_of_lt_of_le n_2 (by decide : 6 ≤ 56)) (kC_B n_1 n_2) rfl in_B 1 (by decide) w150 rfl rfl rfl ?_
      refine X_aload_n Γ d_B_accept_34 rfl 1 rfl rfl ?_
      refine X_getN Γ d_B_accept_35 (Nat.lt_of_lt_of_le n1_2 (by decide : 38 ≤ 56)) (kC_G n1_1 n1_2) rfl in_G 8 (by decide) w89 rfl rfl rfl ?_
      refine X_callVNi (rest := [.int ((g2 G n 9 0) n1_ 7), .ref (a (n + 4))]) Γ d_B_accept_38 (m_L_countUpTo l D cI cZ cB cM a hJ P (g2 G n 9 0) (n + 4) (Nat.le_trans (by decide : 6 ≤ 2 + 4) (Nat.add_le_add_right n_1 4)) (Nat.lt_of_lt_of_le (Nat.add_lt_add_right n_2 4) (by decide : 6 + 4 ≤ 10)) ((g2 G n 9 0) n1_ 8) (okL_g2 hE (by omega))) (Nat.lt_of_lt_of_le (Nat.lt_of_lt_of_le (Nat.add_lt_add_right n_2 4) (by decide : 6 + 4 ≤ 10)) (by decide : 10 ≤ 56)) (kC_L (Nat.le_trans (by decide : 6 ≤ 2 + 4) (Nat.add_le_add_right n_1 4)) (Nat.lt_of_lt_of_le (Nat.add_lt_add_right n_2 4) (by decide : 6 + 4 ≤ 10))) rfl rfl w365 w353 s_L_countUpTo w7 w354 e_L_countUpTo ⟨by decide, by decide⟩ ⟨rfl, rfl⟩ rfl rfl (Nat.le_of_ble_eq_true rfl) rfl ?_
      refine X_mmin Γ d_B_accept_41 w258 w23 w2 w24 (by decide) (Nat.le_of_ble_eq_true rfl) rfl ?_
      refine X_callVNv (rest := []) Γ d_B_accept_44 (m_L_cutTo l D cI cZ cB cM a hJ P (g2 G n 9 0) (n + 4) (Nat.le_trans (by decide : 6 ≤ 2 + 4) (Nat.add_le_add_right n_1 4)) (Nat.lt_of_lt_of_le (Nat.add_lt_add_right n_2 4) (by decide : 6 + 4 ≤ 10)) (if ((f_L_countUpTo (n + 4) ((g2 G n 9 0) n1_ 8) (g2 G n 9 0))) < ((g2 G n 9 0) n1_ 7) then ((f_L_countUpTo (n + 4) ((g2 G n 9 0) n1_ 8) (g2 G n 9 0))) else ((g2 G n 9 0) n1_ 7))) (Nat.lt_of_lt_of_le (Nat.lt_of_lt_of_le (Nat.add_lt_add_right n_2 4) (by decide : 6 + 4 ≤ 10)) (by decide : 10 ≤ 56)) (kC_L (Nat.le_trans (by decide : 6 ≤ 2 + 4) (Nat.add_le_add_right n_1 4)) (Nat.lt_of_lt_of_le (Nat.add_lt_add_right n_2 4) (by decide : 6 + 4 ≤ 10))) rfl rfl w366 w368 s_L_cutTo w7 w369 e_L_cutTo ⟨by decide, by decide⟩ ⟨rfl, rfl⟩ rfl rfl (Nat.le_of_ble_eq_true rfl) rfl ?_
      refine X_goto (pc' := 83) Γ d_B_accept_47 (by decide) ?_
      exact X_vret Γ d_B_accept_83 (gv_eq E)
  · replace E := E.trans (if_pos h5)
    exact X_vret Γ d_B_accept_8 (gv_eq E)
