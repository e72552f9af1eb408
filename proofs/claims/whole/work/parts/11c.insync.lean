def f_I_fetch (x1 : Int32) (G : Nat → Nat → Int32) (P : Nat → Nat) : Int32 × (Nat → Nat → Int32) := (if ((f_I_isUp x1 G)) = 0 then (0, G) else (if ((f_B_leads (2 + x1.toNatClampNeg) G)) = 0 then (if (G (2 + x1.toNatClampNeg) 6) = (-1) then (0, G) else (jn ((f_H_send 0 (2 + x1.toNatClampNeg) ((g2 (g2 G (2 + x1.toNatClampNeg) 8 ((G (2 + x1.toNatClampNeg) 8) + 1)) (2 + x1.toNatClampNeg) 9 1) (2 + x1.toNatClampNeg) 6) ((g2 (g2 G (2 + x1.toNatClampNeg) 8 ((G (2 + x1.toNatClampNeg) 8) + 1)) (2 + x1.toNatClampNeg) 9 1) (2 + x1.toNatClampNeg) 8) ((g2 (g2 G (2 + x1.toNatClampNeg) 8 ((G (2 + x1.toNatClampNeg) 8) + 1)) (2 + x1.toNatClampNeg) 9 1) (2 + x1.toNatClampNeg + 4) 2) ((f_L_lastEpoch (2 + x1.toNatClampNeg + 4) (g2 (g2 G (2 + x1.toNatClampNeg) 8 ((G (2 + x1.toNatClampNeg) 8) + 1)) (2 + x1.toNatClampNeg) 9 1))) (g2 (g2 G (2 + x1.toNatClampNeg) 8 ((G (2 + x1.toNatClampNeg) 8) + 1)) (2 + x1.toNatClampNeg) 9 1) P).2) (fun (G1 : Nat → Nat → Int32) => (1, G1)))) else (0, G)))
theorem e_I_fetch : y_I_fetch.cls ≠ "java/lang/invoke/MethodHandle" ∧ y_I_fetch.cls ≠ "java/lang/invoke/VarHandle" ∧ (parseMethodDescriptor y_I_fetch.desc).map (fun d => d.parameters.length) = some 1 := by decide +kernel
set_option maxHeartbeats 4000000 in
set_option maxRecDepth 100000 in
theorem m_I_fetch (l : Launch) (D : va_G) (cI cZ cB cM : ClassId) (a : Nat → Nat) (hJ : xJ 56 a) (P : Nat → Nat) (G : Nat → Nat → Int32) (x1 : Int32) (hE : ∀ j : Nat, j < 4 → okL G (2 + j + 4)) (hP9 : ∀ j : Nat, j < 9 → P j < 9) (hc : okH G) : Met l y_I_fetch (Cond.code y_I_fetch prog_1_method_6_code 3 (Option.some FieldType.boolean) :: wsBig) { frames := 4, cells := 0, slots := 0, locals := 83 } (xP D xcl (xty cI cZ cB cM) 56 a (kg (kC cI cB cM a P) G) [.ref (a 0), .int x1]) (xQi D xcl 56 a ((f_I_fetch x1 G P).1) (kg (kC cI cB cM a P) ((f_I_fetch x1 G P).2))) 0 0 (xA 56 a) := by
  refine X_met (by decide) rfl (Nat.le_of_ble_eq_true rfl) hJ (fun Y s m args Γ => ?_)
  show X Y s m D xcl 56 a 3 (kg (kC cI cB cM a P) G) 0 [(0, .ref (a 0)), (1, .int x1)] []
  have E := f_I_fetch.eq_1 x1 G P
  refine X_aload_n Γ d_I_fetch_0 rfl 0 rfl rfl ?_
  refine X_iload_n Γ d_I_fetch_1 rfl 1 rfl rfl ?_
  refine X_callVi (rest := []) Γ d_I_fetch_2 (m_I_isUp l D cI cZ cB cM a hJ P G x1) (by decide) kC_I rfl rfl w293 w295 s_I_isUp w1 w296 e_I_isUp ⟨by decide, by decide⟩ ⟨rfl, rfl⟩ rfl rfl (Nat.le_of_ble_eq_true rfl) rfl ?_
  refine X_if_eq (tgt := 33) Γ d_I_fetch_5 (by decide) rfl (fun h5 => ?_) (fun h5 => ?_)
  · replace E := E.trans (if_pos h5)
    refine X_iconst (v := 0) Γ d_I_fetch_33 (by decide) rfl ?_
    exact X_iretz Γ d_I_fetch_34 rfl (g_r E) (g_eq E)
  · replace E := E.trans (if_neg h5)
    refine X_aload_n Γ d_I_fetch_8 rfl 0 rfl rfl ?_
    refine X_get Γ d_I_fetch_9 (by decide) kC_I rfl in_I 3 (by decide) w198 rfl rfl rfl ?_
    refine X_iload_n Γ d_I_fetch_12 rfl 1 rfl rfl ?_
    refine X_aald Γ d_I_fetch_13 (by decide) kC_BA 2 rfl (isUp_in h5) rfl rfl ?_
    refine X_callVNi (rest := []) Γ d_I_fetch_14 (m_B_leads l D cI cZ cB cM a hJ P G (2 + x1.toNatClampNeg) (Nat.le_add_right 2 _) (Nat.add_lt_add_left (vp_lt (isUp_in h5)) 2)) (Nat.lt_of_lt_of_le (Nat.add_lt_add_left (vp_lt (isUp_in h5)) 2) (by decide : 6 ≤ 56)) (kC_B (Nat.le_add_right 2 _) (Nat.add_lt_add_left (vp_lt (isUp_in h5)) 2)) rfl rfl w228 w230 s_B_leads w6 w231 e_B_leads ⟨by decide, by decide⟩ ⟨rfl, rfl⟩ rfl rfl (Nat.le_of_ble_eq_true rfl) rfl ?_
    refine X_if_ne (tgt := 33) Γ d_I_fetch_17 (by decide) rfl (fun h17 => ?_) (fun h17 => ?_)
    · replace E := E.trans (if_neg h17)
      refine X_iconst (v := 0) Γ d_I_fetch_33 (by decide) rfl ?_
      exact X_iretz Γ d_I_fetch_34 rfl (g_r E) (g_eq E)
    · replace E := E.trans (if_pos h17)
      refine X_aload_n Γ d_I_fetch_20 rfl 0 rfl rfl ?_
      refine X_get Γ d_I_fetch_21 (by decide) kC_I rfl in_I 3 (by decide) w198 rfl rfl rfl ?_
      refine X_iload_n Γ d_I_fetch_24 rfl 1 rfl rfl ?_
      refine X_aald Γ d_I_fetch_25 (by decide) kC_BA 2 rfl (isUp_in h5) rfl rfl ?_
      refine X_getN Γ d_I_fetch_26 (Nat.lt_of_lt_of_le (Nat.add_lt_add_left (vp_lt (isUp_in h5)) 2) (by decide : 6 ≤ 56)) (kC_B (Nat.le_add_right 2 _) (Nat.add_lt_add_left (vp_lt (isUp_in h5)) 2)) rfl in_B 6 (by decide) w160 rfl rfl rfl ?_
      refine X_iconst (v := (-1)) Γ d_I_fetch_29 (by decide) rfl ?_
      refine X_icmp_ne (tgt := 35) Γ d_I_fetch_30 (by decide) rfl (fun h30 => ?_) (fun h30 => ?_)
      · replace E := E.trans (if_neg h30)
        refine X_aload_n Γ d_I_fetch_35 rfl 0 rfl rfl ?_
        refine X_get Γ d_I_fetch_36 (by decide) kC_I rfl in_I 3 (by decide) w198 rfl rfl rfl ?_
        refine X_iload_n Γ d_I_fetch_39 rfl 1 rfl rfl ?_
        refine X_aald Γ d_I_fetch_40 (by decide) kC_BA 2 rfl (isUp_in h5) rfl rfl ?_
        refine X_astore_n Γ d_I_fetch_41 rfl (by decide) rfl rfl ?_
        refine X_aload_n Γ d_I_fetch_42 rfl 0 rfl rfl ?_
        refine X_dup Γ d_I_fetch_43 rfl rfl ?_
        refine X_getN Γ d_I_fetch_44 (Nat.lt_of_lt_of_le (Nat.add_lt_add_left (vp_lt (isUp_in h5)) 2) (by decide : 6 ≤ 56)) (kC_B (Nat.le_add_right 2 _) (Nat.add_lt_add_left (vp_lt (isUp_in h5)) 2)) rfl in_B 8 (by decide) w164 rfl rfl rfl ?_
        refine X_iconst (v := 1) Γ d_I_fetch_47 (by decide) rfl ?_
        refine X_iadd Γ d_I_fetch_48 rfl ?_
        refine X_putN (ty := .int) Γ d_I_fetch_49 (Nat.lt_of_lt_of_le (Nat.add_lt_add_left (vp_lt (isUp_in h5)) 2) (by decide : 6 ≤ 56)) (kC_B (Nat.le_add_right 2 _) (Nat.add_lt_add_left (vp_lt (isUp_in h5)) 2)) rfl in_B 8 (by decide) w164 rfl ty_B ty_B_ok nm_B rfl (by decide +kernel) rfl rfl (Nat.le_of_ble_eq_true rfl) (kp_B_8 (Nat.le_add_right 2 _) (Nat.add_lt_add_left (vp_lt (isUp_in h5)) 2)) rfl ?_
        refine X_aload_n Γ d_I_fetch_52 rfl 0 rfl rfl ?_
        refine X_iconst (v := 1) Γ d_I_fetch_53 (by decide) rfl ?_
        refine X_putN (ty := .boolean) Γ d_I_fetch_54 (Nat.lt_of_lt_of_le (Nat.add_lt_add_left (vp_lt (isUp_in h5)) 2) (by decide : 6 ≤ 56)) (kC_B (Nat.le_add_right 2 _) (Nat.add_lt_add_left (vp_lt (isUp_in h5)) 2)) rfl in_B 9 (by decide) w166 rfl ty_B ty_B_ok nm_B rfl (by decide +kernel) rfl rfl (Nat.le_of_ble_eq_true rfl) (kp_B_9 (Nat.le_add_right 2 _) (Nat.add_lt_add_left (vp_lt (isUp_in h5)) 2)) rfl ?_
        refine X_aload_n Γ d_I_fetch_57 rfl 1 rfl rfl ?_
        refine X_get Γ d_I_fetch_58 (by decide) kC_I rfl in_I 5 (by decide) w200 rfl rfl rfl ?_
        refine X_iconst (v := 0) Γ d_I_fetch_61 (by decide) rfl ?_
        refine X_aload_n Γ d_I_fetch_62 rfl 0 rfl rfl ?_
        refine X_aload_n Γ d_I_fetch_63 rfl 0 rfl rfl ?_
        refine X_getN Γ d_I_fetch_64 (Nat.lt_of_lt_of_le (Nat.add_lt_add_left (vp_lt (isUp_in h5)) 2) (by decide : 6 ≤ 56)) (kC_B (Nat.le_add_right 2 _) (Nat.add_lt_add_left (vp_lt (isUp_in h5)) 2)) rfl in_B 6 (by decide) w160 rfl rfl rfl ?_
        refine X_aload_n Γ d_I_fetch_67 rfl 0 rfl rfl ?_
        refine X_getN Γ d_I_fetch_68 (Nat.lt_of_lt_of_le (Nat.add_lt_add_left (vp_lt (isUp_in h5)) 2) (by decide : 6 ≤ 56)) (kC_B (Nat.le_add_right 2 _) (Nat.add_lt_add_left (vp_lt (isUp_in h5)) 2)) rfl in_B 8 (by decide) w164 rfl rfl rfl ?_
        refine X_aload_n Γ d_I_fetch_71 rfl 0 rfl rfl ?_
        refine X_getN Γ d_I_fetch_72 (Nat.lt_of_lt_of_le (Nat.add_lt_add_left (vp_lt (isUp_in h5)) 2) (by decide : 6 ≤ 56)) (kC_B (Nat.le_add_right 2 _) (Nat.add_lt_add_left (vp_lt (isUp_in h5)) 2)) rfl in_B 1 (by decide) w151 rfl rfl rfl ?_
        refine X_getN Γ d_I_fetch_75 (Nat.lt_of_lt_of_le (Nat.lt_of_lt_of_le (Nat.add_lt_add_right (Nat.add_lt_add_left (vp_lt (isUp_in h5)) 2) 4) (by decide : 6 + 4 ≤ 10)) (by decide : 10 ≤ 56)) (kC_L (Nat.le_trans (by decide : 6 ≤ 2 + 4) (Nat.add_le_add_right (Nat.le_add_right 2 _) 4)) (Nat.lt_of_lt_of_le (Nat.add_lt_add_right (Nat.add_lt_add_left (vp_lt (isUp_in h5)) 2) 4) (by decide : 6 + 4 ≤ 10))) rfl in_L 2 (by decide) w137 rfl rfl rfl ?_
        refine X_aload_n Γ d_I_fetch_78 rfl 0 rfl rfl ?_
        refine X_getN Γ d_I_fetch_79 (Nat.lt_of_lt_of_le (Nat.add_lt_add_left (vp_lt (isUp_in h5)) 2) (by decide : 6 ≤ 56)) (kC_B (Nat.le_add_right 2 _) (Nat.add_lt_add_left (vp_lt (isUp_in h5)) 2)) rfl in_B 1 (by decide) w151 rfl rfl rfl ?_
        refine X_callVNi (rest := [.int ((g2 (g2 G (2 + x1.toNatClampNeg) 8 ((G (2 + x1.toNatClampNeg) 8) + 1)) (2 + x1.toNatClampNeg) 9 1) (2 + x1.toNatClampNeg + 4) 2), .int ((g2 (g2 G (2 + x1.toNatClampNeg) 8 ((G (2 + x1.toNatClampNeg) 8) + 1)) (2 + x1.toNatClampNeg) 9 1) (2 + x1.toNatClampNeg) 8), .int ((g2 (g2 G (2 + x1.toNatClampNeg) 8 ((G (2 + x1.toNatClampNeg) 8) + 1)) (2 + x1.toNatClampNeg) 9 1) (2 + x1.toNatClampNeg) 6), .ref (a (2 + x1.toNatClampNeg)), .int 0, .ref (a 27)]) Γ d_I_fetch_82 (m_L_lastEpoch l D cI cZ cB cM a hJ P (g2 (g2 G (2 + x1.toNatClampNeg) 8 ((G (2 + x1.toNatClampNeg) 8) + 1)) (2 + x1.toNatClampNeg) 9 1) (2 + x1.toNatClampNeg + 4) (Nat.le_trans (by decide : 6 ≤ 2 + 4) (Nat.add_le_add_right (Nat.le_add_right 2 _) 4)) (Nat.lt_of_lt_of_le (Nat.add_lt_add_right (Nat.add_lt_add_left (vp_lt (isUp_in h5)) 2) 4) (by decide : 6 + 4 ≤ 10)) (okL_g2 (okL_g2 (hE _ (vp_lt (isUp_in h5))) (by omega)) (by omega))) (Nat.lt_of_lt_of_le (Nat.lt_of_lt_of_le (Nat.add_lt_add_right (Nat.add_lt_add_left (vp_lt (isUp_in h5)) 2) 4) (by decide : 6 + 4 ≤ 10)) (by decide : 10 ≤ 56)) (kC_L (Nat.le_trans (by decide : 6 ≤ 2 + 4) (Nat.add_le_add_right (Nat.le_add_right 2 _) 4)) (Nat.lt_of_lt_of_le (Nat.add_lt_add_right (Nat.add_lt_add_left (vp_lt (isUp_in h5)) 2) 4) (by decide : 6 + 4 ≤ 10))) rfl rfl w297 w299 s_L_lastEpoch w7 w300 e_L_lastEpoch ⟨by decide, by decide⟩ ⟨rfl, rfl⟩ rfl rfl (Nat.le_of_ble_eq_true rfl) rfl ?_
        refine X_callVNq (rest := []) Γ d_I_fetch_85 (m_H_send l D cI cZ cB cM a hJ P (g2 (g2 G (2 + x1.toNatClampNeg) 8 ((G (2 + x1.toNatClampNeg) 8) + 1)) (2 + x1.toNatClampNeg) 9 1) 0 (2 + x1.toNatClampNeg) (Nat.le_add_right 2 _) (Nat.add_lt_add_left (vp_lt (isUp_in h5)) 2) ((g2 (g2 G (2 + x1.toNatClampNeg) 8 ((G (2 + x1.toNatClampNeg) 8) + 1)) (2 + x1.toNatClampNeg) 9 1) (2 + x1.toNatClampNeg) 6) ((g2 (g2 G (2 + x1.toNatClampNeg) 8 ((G (2 + x1.toNatClampNeg) 8) + 1)) (2 + x1.toNatClampNeg) 9 1) (2 + x1.toNatClampNeg) 8) ((g2 (g2 G (2 + x1.toNatClampNeg) 8 ((G (2 + x1.toNatClampNeg) 8) + 1)) (2 + x1.toNatClampNeg) 9 1) (2 + x1.toNatClampNeg + 4) 2) ((f_L_lastEpoch (2 + x1.toNatClampNeg + 4) (g2 (g2 G (2 + x1.toNatClampNeg) 8 ((G (2 + x1.toNatClampNeg) 8) + 1)) (2 + x1.toNatClampNeg) 9 1))) hP9 (okH_g2 (okH_g2 hc (ne27 (vp_lt (isUp_in h5)))) (ne27 (vp_lt (isUp_in h5))))) (by decide) kC_H rfl rfl w308 w310 s_H_send w4 w311 e_H_send ⟨by decide, by decide⟩ ⟨rfl, rfl⟩ rfl rfl (Nat.le_of_ble_eq_true rfl) rfl ?_
        refine X_pop Γ d_I_fetch_88 (va_rf_cat _) rfl ?_
        refine jn_open E (fun G1 eG1 E => ?_)
        rw [← eG1]
        refine X_iconst (v := 1) Γ d_I_fetch_89 (by decide) rfl ?_
        exact X_iretz Γ d_I_fetch_90 rfl (g_r E) (g_eq E)
      · replace E := E.trans (if_pos h30)
        refine X_iconst (v := 0) Γ d_I_fetch_33 (by decide) rfl ?_
        exact X_iretz Γ d_I_fetch_34 rfl (g_r E) (g_eq E)
def f_I_lose (x1 : Int32) (G : Nat → Nat → Int32) (P : Nat → Nat) : Int32 × (Nat → Nat → Int32) × (Nat → Nat) := (if ((f_H_take x1 G P).1) = none then (0, ((f_H_take x1 G P).2.1), ((f_H_take x1 G P).2.2)) else (1, ((f_H_take x1 G P).2.1), ((f_H_take x1 G P).2.2)))
theorem e_I_lose : y_I_lose.cls ≠ "java/lang/invoke/MethodHandle" ∧ y_I_lose.cls ≠ "java/lang/invoke/VarHandle" ∧ (parseMethodDescriptor y_I_lose.desc).map (fun d => d.parameters.length) = some 1 := by decide +kernel
set_option maxHeartbeats 4000000 in
set_option maxRecDepth 100000 in
theorem m_I_lose (l : Launch) (D : va_G) (cI cZ cB cM : ClassId) (a : Nat → Nat) (hJ : xJ 56 a) (P : Nat → Nat) (G : Nat → Nat → Int32) (x1 : Int32) (hP9 : ∀ j : Nat, j < 9 → P j < 9) (hc : okH G) : Met l y_I_lose (Cond.code y_I_lose prog_1_method_8_code 2 (Option.some FieldType.boolean) :: wsBig) { frames := 2, cells := 0, slots := 0, locals := 44 } (xP D xcl (xty cI cZ cB cM) 56 a (kg (kC cI cB cM a P) G) [.ref (a 0), .int x1]) (xQi D xcl 56 a ((f_I_lose x1 G P).1) (kg (kC cI cB cM a ((f_I_lose x1 G P).2.2)) ((f_I_lose x1 G P).2.1))) 0 0 (xA 56 a) := by
  refine X_met (by decide) rfl (Nat.le_of_ble_eq_true rfl) hJ (fun Y s m args Γ => ?_)
  show X Y s m D xcl 56 a 2 (kg (kC cI cB cM a P) G) 0 [(0, .ref (a 0)), (1, .int x1)] []
  have E := f_I_lose.eq_1 x1 G P
  refine X_aload_n Γ d_I_lose_0 rfl 0 rfl rfl ?_
  refine X_get Γ d_I_lose_1 (by decide) kC_I rfl in_I 5 (by decide) w200 rfl rfl rfl ?_
  refine X_iload_n Γ d_I_lose_4 rfl 1 rfl rfl ?_
  refine X_callVNq (rest := []) Γ d_I_lose_5 (m_H_take l D cI cZ cB cM a hJ P G x1 hP9 hc) (by decide) kC_H rfl rfl w316 w318 s_H_take w4 w319 e_H_take ⟨by decide, by decide⟩ ⟨rfl, rfl⟩ rfl rfl (Nat.le_of_ble_eq_true rfl) rfl ?_
  refine X_cq (r := ((f_H_take x1 G P).1)) (fun h5 => ?_) (fun h5 => ?_)
  · replace E := E.trans (if_pos h5)
    refine X_ifnullN (pc' := 15) Γ d_I_lose_8 (by decide) ?_
    refine X_iconst (v := 0) Γ d_I_lose_15 (by decide) rfl ?_
    exact X_iretz Γ d_I_lose_16 rfl (gp_r E) (gp_eq E)
  · replace E := E.trans (if_neg h5)
    refine X_ifnull Γ d_I_lose_8 rfl ?_
    refine X_iconst (v := 1) Γ d_I_lose_11 (by decide) rfl ?_
    refine X_goto (pc' := 16) Γ d_I_lose_12 (by decide) ?_
    exact X_iretz Γ d_I_lose_16 rfl (gp_r E) (gp_eq E)
def f_I_flight (G : Nat → Nat → Int32) : Int32 := (G 27 1)
theorem e_I_flight : y_I_flight.cls ≠ "java/lang/invoke/MethodHandle" ∧ y_I_flight.cls ≠ "java/lang/invoke/VarHandle" ∧ (parseMethodDescriptor y_I_flight.desc).map (fun d => d.parameters.length) = some 0 := by decide +kernel
set_option maxHeartbeats 4000000 in
set_option maxRecDepth 100000 in
theorem m_I_flight (l : Launch) (D : va_G) (cI cZ cB cM : ClassId) (a : Nat → Nat) (hJ : xJ 56 a) (P : Nat → Nat) (G : Nat → Nat → Int32) : Met l y_I_flight (Cond.code y_I_flight prog_1_method_9_code 1 (Option.some FieldType.int) :: wsBig) { frames := 0, cells := 0, slots := 0, locals := 0 } (xP D xcl (xty cI cZ cB cM) 56 a (kg (kC cI cB cM a P) G) [.ref (a 0)]) (xQi D xcl 56 a (f_I_flight G) (kg (kC cI cB cM a P) G)) 0 0 (xA 56 a) := by
  refine X_met (by decide) rfl (Nat.le_of_ble_eq_true rfl) hJ (fun Y s m args Γ => ?_)
  show X Y s m D xcl 56 a 1 (kg (kC cI cB cM a P) G) 0 [(0, .ref (a 0))] []
  have E := f_I_flight.eq_1 G
  refine X_aload_n Γ d_I_flight_0 rfl 0 rfl rfl ?_
  refine X_get Γ d_I_flight_1 (by decide) kC_I rfl in_I 5 (by decide) w200 rfl rfl rfl ?_
  refine X_getN Γ d_I_flight_4 (by decide) kC_H rfl in_H 1 (by decide) w114 rfl rfl rfl ?_
  exact X_ireti Γ d_I_flight_7 E.symm rfl
def f_I_message (x1 : Int32) (x2 : Int32) (G : Nat → Nat → Int32) (P : Nat → Nat) : Int32 := (if ((f_H_has x1 G)) = 0 then (-1) else ((f_G_word (29 + P x1.toNatClampNeg) x2 G)))
theorem e_I_message : y_I_message.cls ≠ "java/lang/invoke/MethodHandle" ∧ y_I_message.cls ≠ "java/lang/invoke/VarHandle" ∧ (parseMethodDescriptor y_I_message.desc).map (fun d => d.parameters.length) = some 2 := by decide +kernel
set_option maxHeartbeats 4000000 in
set_option maxRecDepth 100000 in
theorem m_I_message (l : Launch) (D : va_G) (cI cZ cB cM : ClassId) (a : Nat → Nat) (hJ : xJ 56 a) (P : Nat → Nat) (G : Nat → Nat → Int32) (x1 : Int32) (x2 : Int32) (hP9 : ∀ j : Nat, j < 9 → P j < 9) (hc : okH G) : Met l y_I_message (Cond.code y_I_message prog_1_method_10_code 3 (Option.some FieldType.int) :: wsBig) { frames := 1, cells := 0, slots := 0, locals := 21 } (xP D xcl (xty cI cZ cB cM) 56 a (kg (kC cI cB cM a P) G) [.ref (a 0), .int x1, .int x2]) (xQi D xcl 56 a (f_I_message x1 x2 G P) (kg (kC cI cB cM a P) G)) 0 0 (xA 56 a) := by
  refine X_met (by decide) rfl (Nat.le_of_ble_eq_true rfl) hJ (fun Y s m args Γ => ?_)
  show X Y s m D xcl 56 a 3 (kg (kC cI cB cM a P) G) 0 [(0, .ref (a 0)), (1, .int x1), (2, .int x2)] []
  have E := f_I_message.eq_1 x1 x2 G P
  refine X_aload_n Γ d_I_message_0 rfl 0 rfl rfl ?_
  refine X_get Γ d_I_message_1 (by decide) kC_I rfl in_I 5 (by decide) w200 rfl rfl rfl ?_
  refine X_iload_n Γ d_I_message_4 rfl 1 rfl rfl ?_
  refine X_callVNi (rest := []) Γ d_I_message_5 (m_H_has l D cI cZ cB cM a hJ P G x1) (by decide) kC_H rfl rfl w388 w322 s_H_has w4 w323 e_H_has ⟨by decide, by decide⟩ ⟨rfl, rfl⟩ rfl rfl (Nat.le_of_ble_eq_true rfl) rfl ?_
  refine X_if_eq (tgt := 27) Γ d_I_message_8 (by decide) rfl (fun h8 => ?_) (fun h8 => ?_)
  · replace E := E.trans (if_pos h8)
    refine X_iconst (v := (-1)) Γ d_I_message_27 (by decide) rfl ?_
    exact X_ireti Γ d_I_message_28 E.symm rfl
  · replace E := E.trans (if_neg h8)
    refine X_aload_n Γ d_I_message_11 rfl 0 rfl rfl ?_
    refine X_get Γ d_I_message_12 (by decide) kC_I rfl in_I 5 (by decide) w200 rfl rfl rfl ?_
    refine X_getN Γ d_I_message_15 (by decide) kC_H rfl in_H 0 (by decide) w112 rfl rfl rfl ?_
    refine X_iload_n Γ d_I_message_18 rfl 1 rfl rfl ?_
    refine X_aald Γ d_I_message_19 (by decide) kC_MA 3 rfl (hhas_in hc h8) rfl rfl ?_
    refine X_iload_n Γ d_I_message_20 rfl 2 rfl rfl ?_
    refine X_callVNi (rest := []) Γ d_I_message_21 (m_G_word l D cI cZ cB cM a hJ P G (29 + P x1.toNatClampNeg) (Nat.le_add_right 29 _) (Nat.add_lt_add_left (hP9 _ (vp_lt (hhas_in hc h8))) 29) x2) (Nat.lt_of_lt_of_le (Nat.add_lt_add_left (hP9 _ (vp_lt (hhas_in hc h8))) 29) (by decide : 38 ≤ 56)) (kC_G (Nat.le_add_right 29 _) (Nat.add_lt_add_left (hP9 _ (vp_lt (hhas_in hc h8))) 29)) rfl rfl w389 w391 s_G_word w5 w392 e_G_word ⟨by decide, by decide⟩ ⟨rfl, rfl⟩ rfl rfl (Nat.le_of_ble_eq_true rfl) rfl ?_
    refine X_goto (pc' := 28) Γ d_I_message_24 (by decide) ?_
    exact X_ireti Γ d_I_message_28 E.symm rfl
