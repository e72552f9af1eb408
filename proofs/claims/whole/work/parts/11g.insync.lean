def f_I_sendBatch (n1_ : Nat) (n2_ : Nat) (G : Nat → Nat → Int32) (P : Nat → Nat) : (Nat → Nat → Int32) := (if ((f_H_send 2 n1_ (G n2_ 3) (G n2_ 6) (if ((G (n1_ + 4) 2) - (G n2_ 7)) < (G 0 1) then ((G (n1_ + 4) 2) - (G n2_ 7)) else (G 0 1)) (G n1_ 7) G P).1) = none then ((f_H_send 2 n1_ (G n2_ 3) (G n2_ 6) (if ((G (n1_ + 4) 2) - (G n2_ 7)) < (G 0 1) then ((G (n1_ + 4) 2) - (G n2_ 7)) else (G 0 1)) (G n1_ 7) G P).2) else ((f_G_copyRecords (((f_H_send 2 n1_ (G n2_ 3) (G n2_ 6) (if ((G (n1_ + 4) 2) - (G n2_ 7)) < (G 0 1) then ((G (n1_ + 4) 2) - (G n2_ 7)) else (G 0 1)) (G n1_ 7) G P).1).getD 0) (n1_ + 4) (((f_H_send 2 n1_ (G n2_ 3) (G n2_ 6) (if ((G (n1_ + 4) 2) - (G n2_ 7)) < (G 0 1) then ((G (n1_ + 4) 2) - (G n2_ 7)) else (G 0 1)) (G n1_ 7) G P).2) n2_ 7) ((f_H_send 2 n1_ (G n2_ 3) (G n2_ 6) (if ((G (n1_ + 4) 2) - (G n2_ 7)) < (G 0 1) then ((G (n1_ + 4) 2) - (G n2_ 7)) else (G 0 1)) (G n1_ 7) G P).2))))
theorem e_I_sendBatch : y_I_sendBatch.cls ≠ "java/lang/invoke/MethodHandle" ∧ y_I_sendBatch.cls ≠ "java/lang/invoke/VarHandle" ∧ (parseMethodDescriptor y_I_sendBatch.desc).map (fun d => d.parameters.length) = some 2 := by decide +kernel
set_option maxHeartbeats 4000000 in
set_option maxRecDepth 100000 in
theorem m_I_sendBatch (l : Launch) (D : va_G) (cI cZ cB cM : ClassId) (a : Nat → Nat) (hJ : xJ 56 a) (P : Nat → Nat) (G : Nat → Nat → Int32) (n1_ : Nat) (n1_1 : 2 ≤ n1_) (n1_2 : n1_ < 6) (n2_ : Nat) (n2_1 : 29 ≤ n2_) (n2_2 : n2_ < 38) (hE : okL G (n1_ + 4)) (hP9 : ∀ j : Nat, j < 9 → P j < 9) (hc : okH G) : Met l y_I_sendBatch (Cond.code y_I_sendBatch prog_1_method_30_code 5 (Option.none : Option FieldType) :: wsBig) { frames := 3, cells := 0, slots := 0, locals := 65 } (xP D xcl (xty cI cZ cB cM) 56 a (kg (kC cI cB cM a P) G) [.ref (a 0), .ref (a n1_), .ref (a n2_)]) (xQv D xcl 56 a (kg (kC cI cB cM a P) (f_I_sendBatch n1_ n2_ G P))) 0 0 (xA 56 a) := by
  refine X_met (by decide) rfl (Nat.le_of_ble_eq_true rfl) hJ (fun Y s m args Γ => ?_)
  show X Y s m D xcl 56 a 5 (kg (kC cI cB cM a P) G) 0 [(0, .ref (a 0)), (1, .ref (a n1_)), (2, .ref (a n2_))] []
  have E := f_I_sendBatch.eq_1 n1_ n2_ G P
  refine X_aload_n Γ d_I_sendBatch_0 rfl 0 rfl rfl ?_
  refine X_get Γ d_I_sendBatch_1 (by decide) kC_I rfl in_I 1 (by decide) w196 rfl rfl rfl ?_
  refine X_aload_n Γ d_I_sendBatch_4 rfl 1 rfl rfl ?_
  refine X_getN Γ d_I_sendBatch_5 (Nat.lt_of_lt_of_le n1_2 (by decide : 6 ≤ 56)) (kC_B n1_1 n1_2) rfl in_B 1 (by decide) w151 rfl rfl rfl ?_
  refine X_getN Γ d_I_sendBatch_8 (Nat.lt_of_lt_of_le (Nat.lt_of_lt_of_le (Nat.add_lt_add_right n1_2 4) (by decide : 6 + 4 ≤ 10)) (by decide : 10 ≤ 56)) (kC_L (Nat.le_trans (by decide : 6 ≤ 2 + 4) (Nat.add_le_add_right n1_1 4)) (Nat.lt_of_lt_of_le (Nat.add_lt_add_right n1_2 4) (by decide : 6 + 4 ≤ 10))) rfl in_L 2 (by decide) w137 rfl rfl rfl ?_
  refine X_aload_n Γ d_I_sendBatch_11 rfl 2 rfl rfl ?_
  refine X_getN Γ d_I_sendBatch_12 (Nat.lt_of_lt_of_le n2_2 (by decide : 38 ≤ 56)) (kC_G n2_1 n2_2) rfl in_G 7 (by decide) w86 rfl rfl rfl ?_
  refine X_isub Γ d_I_sendBatch_15 rfl ?_
  refine X_mmin Γ d_I_sendBatch_16 w22 w23 w2 w24 (by decide) (Nat.le_of_ble_eq_true rfl) rfl ?_
  refine X_istore_n Γ d_I_sendBatch_19 rfl (by decide) rfl rfl ?_
  refine X_aload_n Γ d_I_sendBatch_20 rfl 1 rfl rfl ?_
  refine X_get Γ d_I_sendBatch_21 (by decide) kC_I rfl in_I 5 (by decide) w200 rfl rfl rfl ?_
  refine X_iconst (v := 2) Γ d_I_sendBatch_24 (by decide) rfl ?_
  refine X_aload_n Γ d_I_sendBatch_25 rfl 2 rfl rfl ?_
  refine X_aload_n Γ d_I_sendBatch_26 rfl 3 rfl rfl ?_
  refine X_getN Γ d_I_sendBatch_27 (Nat.lt_of_lt_of_le n2_2 (by decide : 38 ≤ 56)) (kC_G n2_1 n2_2) rfl in_G 3 (by decide) w71 rfl rfl rfl ?_
  refine X_aload_n Γ d_I_sendBatch_30 rfl 3 rfl rfl ?_
  refine X_getN Γ d_I_sendBatch_31 (Nat.lt_of_lt_of_le n2_2 (by decide : 38 ≤ 56)) (kC_G n2_1 n2_2) rfl in_G 6 (by decide) w82 rfl rfl rfl ?_
  refine X_iload_n Γ d_I_sendBatch_34 rfl 0 rfl rfl ?_
  refine X_aload_n Γ d_I_sendBatch_35 rfl 2 rfl rfl ?_
  refine X_getN Γ d_I_sendBatch_36 (Nat.lt_of_lt_of_le n1_2 (by decide : 6 ≤ 56)) (kC_B n1_1 n1_2) rfl in_B 7 (by decide) w162 rfl rfl rfl ?_
  refine X_callVNq (rest := []) Γ d_I_sendBatch_39 (m_H_send l D cI cZ cB cM a hJ P G 2 n1_ n1_1 n1_2 (G n2_ 3) (G n2_ 6) (if ((G (n1_ + 4) 2) - (G n2_ 7)) < (G 0 1) then ((G (n1_ + 4) 2) - (G n2_ 7)) else (G 0 1)) (G n1_ 7) hP9 hc) (by decide) kC_H rfl rfl w308 w310 s_H_send w4 w311 e_H_send ⟨by decide, by decide⟩ ⟨rfl, rfl⟩ rfl rfl (Nat.le_of_ble_eq_true rfl) rfl ?_
  refine X_cq (r := ((f_H_send 2 n1_ (G n2_ 3) (G n2_ 6) (if ((G (n1_ + 4) 2) - (G n2_ 7)) < (G 0 1) then ((G (n1_ + 4) 2) - (G n2_ 7)) else (G 0 1)) (G n1_ 7) G P).1)) (fun h39 => ?_) (fun h39 => ?_)
  · replace E := E.trans (if_pos h39)
    refine X_astoreN Γ d_I_sendBatch_42 (by decide) rfl rfl ?_
    refine X_aloadN Γ d_I_sendBatch_44 0 rfl rfl ?_
    refine X_ifnullN (pc' := 62) Γ d_I_sendBatch_46 (by decide) ?_
    exact X_vret Γ d_I_sendBatch_62 (gv_eq E)
  · replace E := E.trans (if_neg h39)
    refine X_astore Γ d_I_sendBatch_42 (by decide) rfl rfl ?_
    refine X_aload Γ d_I_sendBatch_44 0 rfl rfl ?_
    refine X_ifnull Γ d_I_sendBatch_46 rfl ?_
    refine X_aload Γ d_I_sendBatch_49 0 rfl rfl ?_
    refine X_aload_n Γ d_I_sendBatch_51 rfl 3 rfl rfl ?_
    refine X_getN Γ d_I_sendBatch_52 (Nat.lt_of_lt_of_le n1_2 (by decide : 6 ≤ 56)) (kC_B n1_1 n1_2) rfl in_B 1 (by decide) w151 rfl rfl rfl ?_
    refine X_aload_n Γ d_I_sendBatch_55 rfl 4 rfl rfl ?_
    refine X_getN Γ d_I_sendBatch_56 (Nat.lt_of_lt_of_le n2_2 (by decide : 38 ≤ 56)) (kC_G n2_1 n2_2) rfl in_G 7 (by decide) w86 rfl rfl rfl ?_
    refine X_callVNv (rest := []) Γ d_I_sendBatch_59 (m_G_copyRecords l D cI cZ cB cM a hJ P ((f_H_send 2 n1_ (G n2_ 3) (G n2_ 6) (if ((G (n1_ + 4) 2) - (G n2_ 7)) < (G 0 1) then ((G (n1_ + 4) 2) - (G n2_ 7)) else (G 0 1)) (G n1_ 7) G P).2) (((f_H_send 2 n1_ (G n2_ 3) (G n2_ 6) (if ((G (n1_ + 4) 2) - (G n2_ 7)) < (G 0 1) then ((G (n1_ + 4) 2) - (G n2_ 7)) else (G 0 1)) (G n1_ 7) G P).1).getD 0) (sd_lo h39) (sd_hi hP9 hc h39) (n1_ + 4) (Nat.le_trans (by decide : 6 ≤ 2 + 4) (Nat.add_le_add_right n1_1 4)) (Nat.lt_of_lt_of_le (Nat.add_lt_add_right n1_2 4) (by decide : 6 + 4 ≤ 10)) (((f_H_send 2 n1_ (G n2_ 3) (G n2_ 6) (if ((G (n1_ + 4) 2) - (G n2_ 7)) < (G 0 1) then ((G (n1_ + 4) 2) - (G n2_ 7)) else (G 0 1)) (G n1_ 7) G P).2) n2_ 7) (okL_sd hE n1_1 n1_2)) (Nat.lt_of_lt_of_le (sd_hi hP9 hc h39) (by decide : 38 ≤ 56)) (kC_G (sd_lo h39) (sd_hi hP9 hc h39)) rfl rfl w341 w343 s_G_copyRecords w5 w344 e_G_copyRecords ⟨by decide, by decide⟩ ⟨rfl, rfl⟩ rfl rfl (Nat.le_of_ble_eq_true rfl) rfl ?_
    exact X_vret Γ d_I_sendBatch_62 (gv_eq E)
