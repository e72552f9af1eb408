def f_I_answer (n1_ : Nat) (n2_ : Nat) (G : Nat → Nat → Int32) (P : Nat → Nat) : (Nat → Nat → Int32) := (if ((f_B_leads n1_ G)) = 0 then G else (if (G n1_ 5) = (G n2_ 5) then (if ((f_L_continues (n1_ + 4) (G n2_ 7) (G n2_ 8) G)) = 0 then ((f_I_sendCut n1_ n2_ G P)) else ((f_I_sendBatch n1_ n2_ ((f_B_noteFetched n1_ (G n2_ 3) (G n2_ 7) (G 0 6) G)) P))) else G))
theorem e_I_answer : y_I_answer.cls ≠ "java/lang/invoke/MethodHandle" ∧ y_I_answer.cls ≠ "java/lang/invoke/VarHandle" ∧ (parseMethodDescriptor y_I_answer.desc).map (fun d => d.parameters.length) = some 2 := by decide +kernel
set_option maxHeartbeats 4000000 in
set_option maxRecDepth 100000 in
theorem m_I_answer (l : Launch) (D : va_G) (cI cZ cB cM : ClassId) (a : Nat → Nat) (hJ : xJ 56 a) (P : Nat → Nat) (G : Nat → Nat → Int32) (n1_ : Nat) (n1_1 : 2 ≤ n1_) (n1_2 : n1_ < 6) (n2_ : Nat) (n2_1 : 29 ≤ n2_) (n2_2 : n2_ < 38) (hE : okL G (n1_ + 4)) (hf : vp_in (G n2_ 3) 4) (hP9 : ∀ j : Nat, j < 9 → P j < 9) (hc : okH G) : Met l y_I_answer (Cond.code y_I_answer prog_1_method_28_code 3 (Option.none : Option FieldType) :: wsBig) { frames := 5, cells := 0, slots := 0, locals := 108 } (xP D xcl (xty cI cZ cB cM) 56 a (kg (kC cI cB cM a P) G) [.ref (a 0), .ref (a n1_), .ref (a n2_)]) (xQv D xcl 56 a (kg (kC cI cB cM a P) (f_I_answer n1_ n2_ G P))) 0 0 (xA 56 a) := by
  refine X_met (by decide) rfl (Nat.le_of_ble_eq_true rfl) hJ (fun Y s m args Γ => ?_)
  show X Y s m D xcl 56 a 3 (kg (kC cI cB cM a P) G) 0 [(0, .ref (a 0)), (1, .ref (a n1_)), (2, .ref (a n2_))] []
  have E := f_I_answer.eq_1 n1_ n2_ G P
  refine X_aload_n Γ d_I_answer_0 rfl 1 rfl rfl ?_
  refine X_callVNi (rest := []) Γ d_I_answer_1 (m_B_leads l D cI cZ cB cM a hJ P G n1_ n1_1 n1_2) (Nat.lt_of_lt_of_le n1_2 (by decide : 6 ≤ 56)) (kC_B n1_1 n1_2) rfl rfl w228 w230 s_B_leads w6 w231 e_B_leads ⟨by decide, by decide⟩ ⟨rfl, rfl⟩ rfl rfl (Nat.le_of_ble_eq_true rfl) rfl ?_
  refine X_if_eq (tgt := 18) Γ d_I_answer_4 (by decide) rfl (fun h4 => ?_) (fun h4 => ?_)
  · replace E := E.trans (if_pos h4)
    exact X_vret Γ d_I_answer_18 (gv_eq E)
  · replace E := E.trans (if_neg h4)
    refine X_aload_n Γ d_I_answer_7 rfl 1 rfl rfl ?_
    refine X_getN Γ d_I_answer_8 (Nat.lt_of_lt_of_le n1_2 (by decide : 6 ≤ 56)) (kC_B n1_1 n1_2) rfl in_B 5 (by decide) w157 rfl rfl rfl ?_
    refine X_aload_n Γ d_I_answer_11 rfl 2 rfl rfl ?_
    refine X_getN Γ d_I_answer_12 (Nat.lt_of_lt_of_le n2_2 (by decide : 38 ≤ 56)) (kC_G n2_1 n2_2) rfl in_G 5 (by decide) w78 rfl rfl rfl ?_
    refine X_icmp_eq (tgt := 19) Γ d_I_answer_15 (by decide) rfl (fun h15 => ?_) (fun h15 => ?_)
    · replace E := E.trans (if_pos h15)
      refine X_aload_n Γ d_I_answer_19 rfl 1 rfl rfl ?_
      refine X_getN Γ d_I_answer_20 (Nat.lt_of_lt_of_le n1_2 (by decide : 6 ≤ 56)) (kC_B n1_1 n1_2) rfl in_B 1 (by decide) w151 rfl rfl rfl ?_
      refine X_aload_n Γ d_I_answer_23 rfl 2 rfl rfl ?_
      refine X_getN Γ d_I_answer_24 (Nat.lt_of_lt_of_le n2_2 (by decide : 38 ≤ 56)) (kC_G n2_1 n2_2) rfl in_G 7 (by decide) w86 rfl rfl rfl ?_
      refine X_aload_n Γ d_I_answer_27 rfl 2 rfl rfl ?_
      refine X_getN Γ d_I_answer_28 (Nat.lt_of_lt_of_le n2_2 (by decide : 38 ≤ 56)) (kC_G n2_1 n2_2) rfl in_G 8 (by decide) w90 rfl rfl rfl ?_
      refine X_callVNi (rest := []) Γ d_I_answer_31 (m_L_continues l D cI cZ cB cM a hJ P G (n1_ + 4) (Nat.le_trans (by decide : 6 ≤ 2 + 4) (Nat.add_le_add_right n1_1 4)) (Nat.lt_of_lt_of_le (Nat.add_lt_add_right n1_2 4) (by decide : 6 + 4 ≤ 10)) (G n2_ 7) (G n2_ 8) hE) (Nat.lt_of_lt_of_le (Nat.lt_of_lt_of_le (Nat.add_lt_add_right n1_2 4) (by decide : 6 + 4 ≤ 10)) (by decide : 10 ≤ 56)) (kC_L (Nat.le_trans (by decide : 6 ≤ 2 + 4) (Nat.add_le_add_right n1_1 4)) (Nat.lt_of_lt_of_le (Nat.add_lt_add_right n1_2 4) (by decide : 6 + 4 ≤ 10))) rfl rfl w328 w330 s_L_continues w7 w331 e_L_continues ⟨by decide, by decide⟩ ⟨rfl, rfl⟩ rfl rfl (Nat.le_of_ble_eq_true rfl) rfl ?_
      refine X_if_eq (tgt := 62) Γ d_I_answer_34 (by decide) rfl (fun h34 => ?_) (fun h34 => ?_)
      · replace E := E.trans (if_pos h34)
        refine X_aload_n Γ d_I_answer_62 rfl 0 rfl rfl ?_
        refine X_aload_n Γ d_I_answer_63 rfl 1 rfl rfl ?_
        refine X_aload_n Γ d_I_answer_64 rfl 2 rfl rfl ?_
        refine X_callVv (rest := []) Γ d_I_answer_65 (m_I_sendCut l D cI cZ cB cM a hJ P G n1_ n1_1 n1_2 n2_ n2_1 n2_2 hE hP9 hc) (by decide) kC_I rfl rfl w347 w349 s_I_sendCut w1 w350 e_I_sendCut ⟨by decide, by decide⟩ ⟨rfl, rfl⟩ rfl rfl (Nat.le_of_ble_eq_true rfl) rfl ?_
        exact X_vret Γ d_I_answer_68 (gv_eq E)
      · replace E := E.trans (if_neg h34)
        refine X_aload_n Γ d_I_answer_37 rfl 1 rfl rfl ?_
        refine X_aload_n Γ d_I_answer_38 rfl 2 rfl rfl ?_
        refine X_getN Γ d_I_answer_39 (Nat.lt_of_lt_of_le n2_2 (by decide : 38 ≤ 56)) (kC_G n2_1 n2_2) rfl in_G 3 (by decide) w71 rfl rfl rfl ?_
        refine X_aload_n Γ d_I_answer_42 rfl 2 rfl rfl ?_
        refine X_getN Γ d_I_answer_43 (Nat.lt_of_lt_of_le n2_2 (by decide : 38 ≤ 56)) (kC_G n2_1 n2_2) rfl in_G 7 (by decide) w86 rfl rfl rfl ?_
        refine X_aload_n Γ d_I_answer_46 rfl 0 rfl rfl ?_
        refine X_get Γ d_I_answer_47 (by decide) kC_I rfl in_I 6 (by decide) w201 rfl rfl rfl ?_
        refine X_callVNv (rest := []) Γ d_I_answer_50 (m_B_noteFetched l D cI cZ cB cM a hJ P G n1_ n1_1 n1_2 (G n2_ 3) (G n2_ 7) (G 0 6) hf) (Nat.lt_of_lt_of_le n1_2 (by decide : 6 ≤ 56)) (kC_B n1_1 n1_2) rfl rfl w332 w334 s_B_noteFetched w6 w335 e_B_noteFetched ⟨by decide, by decide⟩ ⟨rfl, rfl⟩ rfl rfl (Nat.le_of_ble_eq_true rfl) rfl ?_
        refine X_aload_n Γ d_I_answer_53 rfl 0 rfl rfl ?_
        refine X_aload_n Γ d_I_answer_54 rfl 1 rfl rfl ?_
        refine X_aload_n Γ d_I_answer_55 rfl 2 rfl rfl ?_
        refine X_callVv (rest := []) Γ d_I_answer_56 (m_I_sendBatch l D cI cZ cB cM a hJ P ((f_B_noteFetched n1_ (G n2_ 3) (G n2_ 7) (G 0 6) G)) n1_ n1_1 n1_2 n2_ n2_1 n2_2 (okL_nf hE n1_1 n1_2) hP9 (okH_nf hc n1_1 n1_2)) (by decide) kC_I rfl rfl w337 w339 s_I_sendBatch w1 w340 e_I_sendBatch ⟨by decide, by decide⟩ ⟨rfl, rfl⟩ rfl rfl (Nat.le_of_ble_eq_true rfl) rfl ?_
        refine X_goto (pc' := 68) Γ d_I_answer_59 (by decide) ?_
        exact X_vret Γ d_I_answer_68 (gv_eq E)
    · replace E := E.trans (if_neg h15)
      exact X_vret Γ d_I_answer_18 (gv_eq E)
