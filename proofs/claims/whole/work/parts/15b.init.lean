theorem e_B_init : y_B_init.cls ≠ "java/lang/invoke/MethodHandle" ∧ y_B_init.cls ≠ "java/lang/invoke/VarHandle" ∧ (parseMethodDescriptor y_B_init.desc).map (fun d => d.parameters.length) = some 1 := by decide +kernel
set_option maxHeartbeats 4000000 in
set_option maxRecDepth 100000 in
theorem m_B_init (l : Launch) (D : va_G) (cI cZ cB cM : ClassId) (b sz : Nat) (x1 : Int32) : Met l y_B_init (Cond.code y_B_init prog_2_method_1_code 2 none :: wsBig) { frames := 2, cells := 5, slots := 91, locals := 40 } (zP D xcl (xty cI cZ cB cM) b (.inr (0, [.int 0, .null, .null, .null, .int 0, .int 0, .int 0, .int 0, .int 0, .int 0, .int 0, .int 0])) sz [.int x1]) (zQ D xcl b (.inr (0, [.int 0, .null, .null, .null, .int 0, .int 0, .int 0, .int 0, .int 0, .int 0, .int 0, .int 0])) sz (fun _ => True) (fun u => [(b, .inr (0, [.int x1, .ref (u 0), .ref (u 3), .ref (u 4), .int 1, .int 1, .int 0, .int 0, .int 0, .int 0, .int 0, .int 15])), ((u 0), .inr (3, [.ref (u 1), .ref (u 2), .int 0])), ((u 1), .inl (cI, 40, .inl (fun _ => 0))), ((u 2), .inl (cI, 40, .inl (fun _ => 0))), ((u 3), .inl (cI, 4, .inl (f_Arr_fill 0 4 (-1) (fun _ _ => 0) 0))), ((u 4), .inl (cI, 4, .inl (fun _ => 0)))])) 5 91 (va_A [(b, .inr (0, [.int 0, .null, .null, .null, .int 0, .int 0, .int 0, .int 0, .int 0, .int 0, .int 0, .int 0]))] sz) := by
  refine Z_met (nm := "<init>") (by decide) rfl rfl (Nat.le_of_ble_eq_true rfl) (fun Y s m args Γ => ?_)
  show Z Y s m D xcl _ 2 [(b, .inr (0, [.int 0, .null, .null, .null, .int 0, .int 0, .int 0, .int 0, .int 0, .int 0, .int 0, .int 0]))] 0 0 0 [(0, .ref b), (1, .int x1)] []
  refine Z_aload_n Γ d_B_init_0 rfl 0 rfl rfl ?_
  refine Z_obj Γ d_B_init_1 w126 w17 w18 (by decide) (Nat.le_of_ble_eq_true rfl) rfl ?_
  refine Z_aload_n Γ d_B_init_4 rfl 0 rfl rfl ?_
  refine Z_new (ci := 3) (fs := [.null, .null, .int 0]) Γ d_B_init_5 rfl in_L ty_L ty_L_ok w127 w128 w7 df_L (by decide) (by decide) rfl (fun q5_1 => ?_)
  refine Z_dup Γ d_B_init_8 rfl rfl ?_
  refine Z_callIN (rest := [.ref q5_1, .ref b]) Γ d_B_init_9 (fun sz => m_L_init l D cI cZ cB cM q5_1 sz) w129 w130 rfl w7 w131 e_L_init ⟨by decide, by decide⟩ ⟨rfl, rfl⟩ rfl rfl (Nat.le_of_ble_eq_true rfl) ⟨by decide, by decide⟩ rfl (fun u9_1 huu9_1 => ?_)
  refine Z_eq (w' := [(b, .inr (0, [.int 0, .null, .null, .null, .int 0, .int 0, .int 0, .int 0, .int 0, .int 0, .int 0, .int 0])), (q5_1, .inr (3, [.ref (u9_1 0), .ref (u9_1 1), .int 0])), ((u9_1 0), .inl (cI, 40, .inl (fun _ => 0))), ((u9_1 1), .inl (cI, 40, .inl (fun _ => 0)))]) rfl ?_
  refine Z_putF (ty := .object "InSyncLog$Log") Γ d_B_init_12 0 rfl rfl in_B 1 (by decide) w150 rfl ty_B ty_B_ok nm_B rfl rfl rfl (by decide +kernel) rfl rfl (Nat.le_of_ble_eq_true rfl) rfl ?_
  refine Z_eq (w' := [(b, .inr (0, [.int 0, .ref q5_1, .null, .null, .int 0, .int 0, .int 0, .int 0, .int 0, .int 0, .int 0, .int 0])), (q5_1, .inr (3, [.ref (u9_1 0), .ref (u9_1 1), .int 0])), ((u9_1 0), .inl (cI, 40, .inl (fun _ => 0))), ((u9_1 1), .inl (cI, 40, .inl (fun _ => 0)))]) rfl ?_
  refine Z_aload_n Γ d_B_init_15 rfl 0 rfl rfl ?_
  refine Z_iconst (v := 4) Γ d_B_init_16 (by decide) rfl ?_
  refine Z_newai (N' := 4) (cA := cI) Γ d_B_init_17 0 rfl w110 (by decide) (by decide) (by decide) (by decide) (by decide) rfl (fun q17_1 => ?_)
  refine Z_eq (w' := [(b, .inr (0, [.int 0, .ref q5_1, .null, .null, .int 0, .int 0, .int 0, .int 0, .int 0, .int 0, .int 0, .int 0])), (q5_1, .inr (3, [.ref (u9_1 0), .ref (u9_1 1), .int 0])), ((u9_1 0), .inl (cI, 40, .inl (fun _ => 0))), ((u9_1 1), .inl (cI, 40, .inl (fun _ => 0))), (q17_1, .inl (cI, 4, .inl (fun _ => 0)))]) rfl ?_
  refine Z_putF (ty := .array .int) Γ d_B_init_19 0 rfl rfl in_B 2 (by decide) w152 rfl ty_B ty_B_ok nm_B rfl rfl rfl (by decide +kernel) rfl rfl (Nat.le_of_ble_eq_true rfl) rfl ?_
  refine Z_eq (w' := [(b, .inr (0, [.int 0, .ref q5_1, .ref q17_1, .null, .int 0, .int 0, .int 0, .int 0, .int 0, .int 0, .int 0, .int 0])), (q5_1, .inr (3, [.ref (u9_1 0), .ref (u9_1 1), .int 0])), ((u9_1 0), .inl (cI, 40, .inl (fun _ => 0))), ((u9_1 1), .inl (cI, 40, .inl (fun _ => 0))), (q17_1, .inl (cI, 4, .inl (fun _ => 0)))]) rfl ?_
  refine Z_aload_n Γ d_B_init_22 rfl 0 rfl rfl ?_
  refine Z_iconst (v := 4) Γ d_B_init_23 (by decide) rfl ?_
  refine Z_newai (N' := 4) (cA := cI) Γ d_B_init_24 0 rfl w110 (by decide) (by decide) (by decide) (by decide) (by decide) rfl (fun q24_1 => ?_)
  refine Z_eq (w' := [(b, .inr (0, [.int 0, .ref q5_1, .ref q17_1, .null, .int 0, .int 0, .int 0, .int 0, .int 0, .int 0, .int 0, .int 0])), (q5_1, .inr (3, [.ref (u9_1 0), .ref (u9_1 1), .int 0])), ((u9_1 0), .inl (cI, 40, .inl (fun _ => 0))), ((u9_1 1), .inl (cI, 40, .inl (fun _ => 0))), (q17_1, .inl (cI, 4, .inl (fun _ => 0))), (q24_1, .inl (cI, 4, .inl (fun _ => 0)))]) rfl ?_
  refine Z_putF (ty := .array .int) Γ d_B_init_26 0 rfl rfl in_B 3 (by decide) w153 rfl ty_B ty_B_ok nm_B rfl rfl rfl (by decide +kernel) rfl rfl (Nat.le_of_ble_eq_true rfl) rfl ?_
  refine Z_eq (w' := [(b, .inr (0, [.int 0, .ref q5_1, .ref q17_1, .ref q24_1, .int 0, .int 0, .int 0, .int 0, .int 0, .int 0, .int 0, .int 0])), (q5_1, .inr (3, [.ref (u9_1 0), .ref (u9_1 1), .int 0])), ((u9_1 0), .inl (cI, 40, .inl (fun _ => 0))), ((u9_1 1), .inl (cI, 40, .inl (fun _ => 0))), (q17_1, .inl (cI, 4, .inl (fun _ => 0))), (q24_1, .inl (cI, 4, .inl (fun _ => 0)))]) rfl ?_
  refine Z_aload_n Γ d_B_init_29 rfl 0 rfl rfl ?_
  refine Z_iconst (v := 1) Γ d_B_init_30 (by decide) rfl ?_
  refine Z_put (ty := .boolean) Γ d_B_init_31 0 rfl rfl in_B 4 (by decide) w154 rfl ty_B ty_B_ok nm_B rfl (by decide +kernel) rfl rfl (Nat.le_of_ble_eq_true rfl) rfl ?_
  refine Z_eq (w' := [(b, .inr (0, [.int 0, .ref q5_1, .ref q17_1, .ref q24_1, .int 1, .int 0, .int 0, .int 0, .int 0, .int 0, .int 0, .int 0])), (q5_1, .inr (3, [.ref (u9_1 0), .ref (u9_1 1), .int 0])), ((u9_1 0), .inl (cI, 40, .inl (fun _ => 0))), ((u9_1 1), .inl (cI, 40, .inl (fun _ => 0))), (q17_1, .inl (cI, 4, .inl (fun _ => 0))), (q24_1, .inl (cI, 4, .inl (fun _ => 0)))]) rfl ?_
  refine Z_aload_n Γ d_B_init_34 rfl 0 rfl rfl ?_
  refine Z_iconst (v := 1) Γ d_B_init_35 (by decide) rfl ?_
  refine Z_put (ty := .int) Γ d_B_init_36 0 rfl rfl in_B 5 (by decide) w156 rfl ty_B ty_B_ok nm_B rfl (by decide +kernel) rfl rfl (Nat.le_of_ble_eq_true rfl) rfl ?_
  refine Z_eq (w' := [(b, .inr (0, [.int 0, .ref q5_1, .ref q17_1, .ref q24_1, .int 1, .int 1, .int 0, .int 0, .int 0, .int 0, .int 0, .int 0])), (q5_1, .inr (3, [.ref (u9_1 0), .ref (u9_1 1), .int 0])), ((u9_1 0), .inl (cI, 40, .inl (fun _ => 0))), ((u9_1 1), .inl (cI, 40, .inl (fun _ => 0))), (q17_1, .inl (cI, 4, .inl (fun _ => 0))), (q24_1, .inl (cI, 4, .inl (fun _ => 0)))]) rfl ?_
  refine Z_aload_n Γ d_B_init_39 rfl 0 rfl rfl ?_
  refine Z_iconst (v := 0) Γ d_B_init_40 (by decide) rfl ?_
  refine Z_put (ty := .int) Γ d_B_init_41 0 rfl rfl in_B 6 (by decide) w159 rfl ty_B ty_B_ok nm_B rfl (by decide +kernel) rfl rfl (Nat.le_of_ble_eq_true rfl) rfl ?_
  refine Z_eq (w' := [(b, .inr (0, [.int 0, .ref q5_1, .ref q17_1, .ref q24_1, .int 1, .int 1, .int 0, .int 0, .int 0, .int 0, .int 0, .int 0])), (q5_1, .inr (3, [.ref (u9_1 0), .ref (u9_1 1), .int 0])), ((u9_1 0), .inl (cI, 40, .inl (fun _ => 0))), ((u9_1 1), .inl (cI, 40, .inl (fun _ => 0))), (q17_1, .inl (cI, 4, .inl (fun _ => 0))), (q24_1, .inl (cI, 4, .inl (fun _ => 0)))]) rfl ?_
  refine Z_aload_n Γ d_B_init_44 rfl 0 rfl rfl ?_
  refine Z_iconst (v := 0) Γ d_B_init_45 (by decide) rfl ?_
  refine Z_put (ty := .int) Γ d_B_init_46 0 rfl rfl in_B 7 (by decide) w161 rfl ty_B ty_B_ok nm_B rfl (by decide +kernel) rfl rfl (Nat.le_of_ble_eq_true rfl) rfl ?_
  refine Z_eq (w' := [(b, .inr (0, [.int 0, .ref q5_1, .ref q17_1, .ref q24_1, .int 1, .int 1, .int 0, .int 0, .int 0, .int 0, .int 0, .int 0])), (q5_1, .inr (3, [.ref (u9_1 0), .ref (u9_1 1), .int 0])), ((u9_1 0), .inl (cI, 40, .inl (fun _ => 0))), ((u9_1 1), .inl (cI, 40, .inl (fun _ => 0))), (q17_1, .inl (cI, 4, .inl (fun _ => 0))), (q24_1, .inl (cI, 4, .inl (fun _ => 0)))]) rfl ?_
  refine Z_aload_n Γ d_B_init_49 rfl 0 rfl rfl ?_
  refine Z_iconst (v := 0) Γ d_B_init_50 (by decide) rfl ?_
  refine Z_put (ty := .int) Γ d_B_init_51 0 rfl rfl in_B 8 (by decide) w163 rfl ty_B ty_B_ok nm_B rfl (by decide +kernel) rfl rfl (Nat.le_of_ble_eq_true rfl) rfl ?_
  refine Z_eq (w' := [(b, .inr (0, [.int 0, .ref q5_1, .ref q17_1, .ref q24_1, .int 1, .int 1, .int 0, .int 0, .int 0, .int 0, .int 0, .int 0])), (q5_1, .inr (3, [.ref (u9_1 0), .ref (u9_1 1), .int 0])), ((u9_1 0), .inl (cI, 40, .inl (fun _ => 0))), ((u9_1 1), .inl (cI, 40, .inl (fun _ => 0))), (q17_1, .inl (cI, 4, .inl (fun _ => 0))), (q24_1, .inl (cI, 4, .inl (fun _ => 0)))]) rfl ?_
  refine Z_aload_n Γ d_B_init_54 rfl 0 rfl rfl ?_
  refine Z_iconst (v := 0) Γ d_B_init_55 (by decide) rfl ?_
  refine Z_put (ty := .boolean) Γ d_B_init_56 0 rfl rfl in_B 9 (by decide) w165 rfl ty_B ty_B_ok nm_B rfl (by decide +kernel) rfl rfl (Nat.le_of_ble_eq_true rfl) rfl ?_
  refine Z_eq (w' := [(b, .inr (0, [.int 0, .ref q5_1, .ref q17_1, .ref q24_1, .int 1, .int 1, .int 0, .int 0, .int 0, .int 0, .int 0, .int 0])), (q5_1, .inr (3, [.ref (u9_1 0), .ref (u9_1 1), .int 0])), ((u9_1 0), .inl (cI, 40, .inl (fun _ => 0))), ((u9_1 1), .inl (cI, 40, .inl (fun _ => 0))), (q17_1, .inl (cI, 4, .inl (fun _ => 0))), (q24_1, .inl (cI, 4, .inl (fun _ => 0)))]) rfl ?_
  refine Z_aload_n Γ d_B_init_59 rfl 0 rfl rfl ?_
  refine Z_iconst (v := 0) Γ d_B_init_60 (by decide) rfl ?_
  refine Z_put (ty := .int) Γ d_B_init_61 0 rfl rfl in_B 10 (by decide) w167 rfl ty_B ty_B_ok nm_B rfl (by decide +kernel) rfl rfl (Nat.le_of_ble_eq_true rfl) rfl ?_
  refine Z_eq (w' := [(b, .inr (0, [.int 0, .ref q5_1, .ref q17_1, .ref q24_1, .int 1, .int 1, .int 0, .int 0, .int 0, .int 0, .int 0, .int 0])), (q5_1, .inr (3, [.ref (u9_1 0), .ref (u9_1 1), .int 0])), ((u9_1 0), .inl (cI, 40, .inl (fun _ => 0))), ((u9_1 1), .inl (cI, 40, .inl (fun _ => 0))), (q17_1, .inl (cI, 4, .inl (fun _ => 0))), (q24_1, .inl (cI, 4, .inl (fun _ => 0)))]) rfl ?_
  refine Z_aload_n Γ d_B_init_64 rfl 0 rfl rfl ?_
  refine Z_bipush (v := 15) Γ d_B_init_65 (by decide) rfl ?_
  refine Z_put (ty := .int) Γ d_B_init_67 0 rfl rfl in_B 11 (by decide) w168 rfl ty_B ty_B_ok nm_B rfl (by decide +kernel) rfl rfl (Nat.le_of_ble_eq_true rfl) rfl ?_
  refine Z_eq (w' := [(b, .inr (0, [.int 0, .ref q5_1, .ref q17_1, .ref q24_1, .int 1, .int 1, .int 0, .int 0, .int 0, .int 0, .int 0, .int 15])), (q5_1, .inr (3, [.ref (u9_1 0), .ref (u9_1 1), .int 0])), ((u9_1 0), .inl (cI, 40, .inl (fun _ => 0))), ((u9_1 1), .inl (cI, 40, .inl (fun _ => 0))), (q17_1, .inl (cI, 4, .inl (fun _ => 0))), (q24_1, .inl (cI, 4, .inl (fun _ => 0)))]) rfl ?_
  refine Z_aload_n Γ d_B_init_70 rfl 0 rfl rfl ?_
  refine Z_iload_n Γ d_B_init_71 rfl 1 rfl rfl ?_
  refine Z_putF (ty := .int) Γ d_B_init_72 0 rfl rfl in_B 0 (by decide) w148 rfl ty_B ty_B_ok nm_B rfl rfl rfl (by decide +kernel) rfl rfl (Nat.le_of_ble_eq_true rfl) rfl ?_
  refine Z_eq (w' := [(b, .inr (0, [.int x1, .ref q5_1, .ref q17_1, .ref q24_1, .int 1, .int 1, .int 0, .int 0, .int 0, .int 0, .int 0, .int 15])), (q5_1, .inr (3, [.ref (u9_1 0), .ref (u9_1 1), .int 0])), ((u9_1 0), .inl (cI, 40, .inl (fun _ => 0))), ((u9_1 1), .inl (cI, 40, .inl (fun _ => 0))), (q17_1, .inl (cI, 4, .inl (fun _ => 0))), (q24_1, .inl (cI, 4, .inl (fun _ => 0)))]) rfl ?_
  refine Z_aload_n Γ d_B_init_75 rfl 0 rfl rfl ?_
  refine Z_get Γ d_B_init_76 0 rfl rfl in_B 2 (by decide) w152 rfl rfl rfl ?_
  refine Z_iconst (v := (-1)) Γ d_B_init_79 (by decide) rfl ?_
  refine Z_callS1 (rest := []) Γ d_B_init_80 (m_Arr_fill l D _ _ 1 (fun _ => q17_1) xJ1 (fun _ f => .inl (cI, 4, .inl f)) (fun _ _ => 0) 0 4 cI (by decide) (fun _ => rfl) rfl (-1) (by decide)) 4 rfl w145 w146 w8 w147 e_Arr_fill ⟨by decide, by decide⟩ ⟨rfl, rfl⟩ rfl rfl (Nat.le_of_ble_eq_true rfl) ⟨by decide, by decide⟩ rfl ?_
  refine Z_eq (w' := [(b, .inr (0, [.int x1, .ref q5_1, .ref q17_1, .ref q24_1, .int 1, .int 1, .int 0, .int 0, .int 0, .int 0, .int 0, .int 15])), (q5_1, .inr (3, [.ref (u9_1 0), .ref (u9_1 1), .int 0])), ((u9_1 0), .inl (cI, 40, .inl (fun _ => 0))), ((u9_1 1), .inl (cI, 40, .inl (fun _ => 0))), (q17_1, .inl (cI, 4, .inl (f_Arr_fill 0 4 (-1) (fun _ _ => 0) 0))), (q24_1, .inl (cI, 4, .inl (fun _ => 0)))]) rfl ?_
  exact Z_ret Γ d_B_init_83 (fun k9 => [q5_1, (u9_1 0), (u9_1 1), q17_1, q24_1].getD k9 0) trivial rfl (by decide) (by decide)
