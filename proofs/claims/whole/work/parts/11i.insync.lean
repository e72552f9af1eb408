def f_I_deliver (x1 : Int32) (G : Nat → Nat → Int32) (P : Nat → Nat) : Int32 × (Nat → Nat → Int32) × (Nat → Nat) := (if ((f_H_take x1 G P).1) = none then (0, ((f_H_take x1 G P).2.1), ((f_H_take x1 G P).2.2)) else (if (((f_H_take x1 G P).2.1) (((f_H_take x1 G P).1).getD 0) 2) = 0 then (1, ((f_I_answer (2 + (((f_H_take x1 G P).2.1) (((f_H_take x1 G P).1).getD 0) 4).toNatClampNeg) (((f_H_take x1 G P).1).getD 0) ((f_H_take x1 G P).2.1) ((f_H_take x1 G P).2.2))), ((f_H_take x1 G P).2.2)) else (1, ((f_B_accept (2 + (((f_H_take x1 G P).2.1) (((f_H_take x1 G P).1).getD 0) 4).toNatClampNeg) (((f_H_take x1 G P).1).getD 0) ((f_H_take x1 G P).2.1))), ((f_H_take x1 G P).2.2))))
theorem e_I_deliver : y_I_deliver.cls ≠ "java/lang/invoke/MethodHandle" ∧ y_I_deliver.cls ≠ "java/lang/invoke/VarHandle" ∧ (parseMethodDescriptor y_I_deliver.desc).map (fun d => d.parameters.length) = some 1 := by decide +kernel
set_option maxHeartbeats 4000000 in
set_option maxRecDepth 100000 in
theorem m_I_deliver (l : Launch) (D : va_G) (cI cZ cB cM : ClassId) (a : Nat → Nat) (hJ : xJ 56 a) (P : Nat → Nat) (G : Nat → Nat → Int32) (x1 : Int32) (hP9 : ∀ j : Nat, j < 9 → P j < 9) (hc : okH G) (hE : ∀ j : Nat, j < 4 → okL G (2 + j + 4)) (hM : ∀ j : Nat, j < 9 → vp_in (G (29 + j) 4) 4 ∧ vp_in (G (29 + j) 3) 4) : Met l y_I_deliver (Cond.code y_I_deliver prog_1_method_7_code 4 (Option.some FieldType.boolean) :: wsBig) { frames := 6, cells := 0, slots := 0, locals := 130 } (xP D xcl (xty cI cZ cB cM) 56 a (kg (kC cI cB cM a P) G) [.ref (a 0), .int x1]) (xQi D xcl 56 a ((f_I_deliver x1 G P).1) (kg (kC cI cB cM a ((f_I_deliver x1 G P).2.2)) ((f_I_deliver x1 G P).2.1))) 0 0 (xA 56 a) := by
  refine X_met (by decide) rfl (Nat.le_of_ble_eq_true rfl) hJ (fun Y s m args Γ => ?_)
  show X Y s m D xcl 56 a 4 (kg (kC cI cB cM a P) G) 0 [(0, .ref (a 0)), (1, .int x1)] []
  have E := f_I_deliver.eq_1 x1 G P
  refine X_aload_n Γ d_I_deliver_0 rfl 0 rfl rfl ?_
  refine X_get Γ d_I_deliver_1 (by decide) kC_I rfl in_I 5 (by decide) w200 rfl rfl rfl ?_
  refine X_iload_n Γ d_I_deliver_4 rfl 1 rfl rfl ?_
  refine X_callVNq (rest := []) Γ d_I_deliver_5 (m_H_take l D cI cZ cB cM a hJ P G x1 hP9 hc) (by decide) kC_H rfl rfl w316 w318 s_H_take w4 w319 e_H_take ⟨by decide, by decide⟩ ⟨rfl, rfl⟩ rfl rfl (Nat.le_of_ble_eq_true rfl) rfl ?_
  refine X_cq (r := ((f_H_take x1 G P).1)) (fun h5 => ?_) (fun h5 => ?_)
  · replace E := E.trans (if_pos h5)
    refine X_astore_nN Γ d_I_deliver_8 rfl (by decide) rfl rfl ?_
    refine X_aload_nN Γ d_I_deliver_9 rfl 0 rfl rfl ?_
    refine X_ifnonnullN Γ d_I_deliver_10 rfl ?_
    refine X_iconst (v := 0) Γ d_I_deliver_13 (by decide) rfl ?_
    exact X_iretz Γ d_I_deliver_14 rfl (gp_r E) (gp_eq E)
  · replace E := E.trans (if_neg h5)
    refine X_astore_n Γ d_I_deliver_8 rfl (by decide) rfl rfl ?_
    refine X_aload_n Γ d_I_deliver_9 rfl 0 rfl rfl ?_
    refine X_ifnonnull (pc' := 15) Γ d_I_deliver_10 (by decide) ?_
    refine X_aload_n Γ d_I_deliver_15 rfl 1 rfl rfl ?_
    refine X_get Γ d_I_deliver_16 (by decide) kC_I rfl in_I 3 (by decide) w198 rfl rfl rfl ?_
    refine X_aload_n Γ d_I_deliver_19 rfl 0 rfl rfl ?_
    refine X_getN Γ d_I_deliver_20 (Nat.lt_of_lt_of_le (tk_hi hP9 hc h5) (by decide : 38 ≤ 56)) (kC_G (tk_lo hP9 hc h5) (tk_hi hP9 hc h5)) rfl in_G 4 (by decide) w74 rfl rfl rfl ?_
    refine X_aald Γ d_I_deliver_23 (by decide) kC_BA 2 rfl (tk_to hM hP9 hc h5) rfl rfl ?_
    refine X_astore_n Γ d_I_deliver_24 rfl (by decide) rfl rfl ?_
    refine X_aload_n Γ d_I_deliver_25 rfl 1 rfl rfl ?_
    refine X_getN Γ d_I_deliver_26 (Nat.lt_of_lt_of_le (tk_hi hP9 hc h5) (by decide : 38 ≤ 56)) (kC_G (tk_lo hP9 hc h5) (tk_hi hP9 hc h5)) rfl in_G 2 (by decide) w67 rfl rfl rfl ?_
    refine X_if_ne (tgt := 41) Γ d_I_deliver_29 (by decide) rfl (fun h29 => ?_) (fun h29 => ?_)
    · replace E := E.trans (if_neg h29)
      refine X_aload_n Γ d_I_deliver_41 rfl 0 rfl rfl ?_
      refine X_aload_n Γ d_I_deliver_42 rfl 1 rfl rfl ?_
      refine X_callVNv (rest := []) Γ d_I_deliver_43 (m_B_accept l D cI cZ cB cM a hJ ((f_H_take x1 G P).2.2) ((f_H_take x1 G P).2.1) (2 + (((f_H_take x1 G P).2.1) (((f_H_take x1 G P).1).getD 0) 4).toNatClampNeg) (Nat.le_add_right 2 _) (Nat.add_lt_add_left (vp_lt (tk_to hM hP9 hc h5)) 2) (((f_H_take x1 G P).1).getD 0) (tk_lo hP9 hc h5) (tk_hi hP9 hc h5) (tk_okL hP9 hc (by have := vp_lt (tk_to hM hP9 hc h5); omega) (hE _ (vp_lt (tk_to hM hP9 hc h5))))) (Nat.lt_of_lt_of_le (Nat.add_lt_add_left (vp_lt (tk_to hM hP9 hc h5)) 2) (by decide : 6 ≤ 56)) (kC_B (Nat.le_add_right 2 _) (Nat.add_lt_add_left (vp_lt (tk_to hM hP9 hc h5)) 2)) rfl rfl w356 w358 s_B_accept w6 w359 e_B_accept ⟨by decide, by decide⟩ ⟨rfl, rfl⟩ rfl rfl (Nat.le_of_ble_eq_true rfl) rfl ?_
      refine X_iconst (v := 1) Γ d_I_deliver_46 (by decide) rfl ?_
      exact X_iretz Γ d_I_deliver_47 rfl (gp_r E) (gp_eq E)
    · replace E := E.trans (if_pos h29)
      refine X_aload_n Γ d_I_deliver_32 rfl 2 rfl rfl ?_
      refine X_aload_n Γ d_I_deliver_33 rfl 0 rfl rfl ?_
      refine X_aload_n Γ d_I_deliver_34 rfl 1 rfl rfl ?_
      refine X_callVv (rest := []) Γ d_I_deliver_35 (m_I_answer l D cI cZ cB cM a hJ ((f_H_take x1 G P).2.2) ((f_H_take x1 G P).2.1) (2 + (((f_H_take x1 G P).2.1) (((f_H_take x1 G P).1).getD 0) 4).toNatClampNeg) (Nat.le_add_right 2 _) (Nat.add_lt_add_left (vp_lt (tk_to hM hP9 hc h5)) 2) (((f_H_take x1 G P).1).getD 0) (tk_lo hP9 hc h5) (tk_hi hP9 hc h5) (tk_okL hP9 hc (by have := vp_lt (tk_to hM hP9 hc h5); omega) (hE _ (vp_lt (tk_to hM hP9 hc h5)))) (tk_from hM hP9 hc h5) (tk_P9 hP9 hc) (tk_okH hP9 hc)) (by decide) kC_I rfl rfl w324 w326 s_I_answer w1 w327 e_I_answer ⟨by decide, by decide⟩ ⟨rfl, rfl⟩ rfl rfl (Nat.le_of_ble_eq_true rfl) rfl ?_
      refine X_goto (pc' := 46) Γ d_I_deliver_38 (by decide) ?_
      refine X_iconst (v := 1) Γ d_I_deliver_46 (by decide) rfl ?_
      exact X_iretz Γ d_I_deliver_47 rfl (gp_r E) (gp_eq E)
