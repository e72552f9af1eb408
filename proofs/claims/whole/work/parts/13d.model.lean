def f_M_cut (x1 : Int32) (G : Nat → Nat → Int32) : (Nat → Nat → Int32) := (if (G 26 5) ≤ (G 3 ((f_M_underEpoch x1 (G 26 6) G)).toNatClampNeg) then (g2 G 7 x1.toNatClampNeg ((f_M_upTo x1 (G 26 5) G))) else (g2 G 7 x1.toNatClampNeg ((f_M_underEpoch x1 (G 26 6) G))))
theorem e_M_cut : y_M_cut.cls ≠ "java/lang/invoke/MethodHandle" ∧ y_M_cut.cls ≠ "java/lang/invoke/VarHandle" ∧ (parseMethodDescriptor y_M_cut.desc).map (fun d => d.parameters.length) = some 1 := by decide +kernel
set_option maxHeartbeats 4000000 in
set_option maxRecDepth 100000 in
theorem m_M_cut (l : Launch) (D : va_G) (cI cZ cB cM : ClassId) (a : Nat → Nat) (hJ : xJ 27 a) (G : Nat → Nat → Int32) (x1 : Int32) (hb : vp_in x1 4) (hT : okT G) (hw : 0 ≤ (G 26 5).toInt) : Met l y_M_cut (Cond.code y_M_cut prog_8_method_27_code 3 (Option.none : Option FieldType) :: wsBig) { frames := 1, cells := 0, slots := 0, locals := 23 } (xP D xcl (xty cI cZ cB cM) 27 a (kg (kM cI cZ a) G) [.ref (a 0), .int x1]) (xQv D xcl 27 a (kg (kM cI cZ a) (f_M_cut x1 G))) 0 0 (xA 27 a) := by
  refine X_met (by decide) rfl (Nat.le_of_ble_eq_true rfl) hJ (fun Y s m args Γ => ?_)
  show X Y s m D xcl 27 a 3 (kg (kM cI cZ a) G) 0 [(0, .ref (a 0)), (1, .int x1)] []
  have E := f_M_cut.eq_1 x1 G
  refine X_aload_n Γ d_M_cut_0 rfl 0 rfl rfl ?_
  refine X_iload_n Γ d_M_cut_1 rfl 1 rfl rfl ?_
  refine X_aload_n Γ d_M_cut_2 rfl 0 rfl rfl ?_
  refine X_get Γ d_M_cut_3 (by decide) rfl rfl in_M 33 (by decide) w513 rfl rfl rfl ?_
  refine X_bipush (v := 6) Γ d_M_cut_6 (by decide) rfl ?_
  refine X_iald (v := (G 26 6)) Γ d_M_cut_8 (by decide) rfl 0 rfl in6_8 rfl rfl ?_
  refine X_callVi (rest := []) Γ d_M_cut_9 (m_M_underEpoch l D cI cZ cB cM a hJ G x1 (G 26 6) hb hT) (by decide) rfl rfl rfl w676 w678 s_M_underEpoch w9 w679 e_M_underEpoch ⟨by decide, by decide⟩ ⟨rfl, rfl⟩ rfl rfl (Nat.le_of_ble_eq_true rfl) rfl ?_
  refine X_istore_n Γ d_M_cut_12 rfl (by decide) rfl rfl ?_
  refine X_aload_n Γ d_M_cut_13 rfl 1 rfl rfl ?_
  refine X_get Γ d_M_cut_14 (by decide) rfl rfl in_M 13 (by decide) w493 rfl rfl rfl ?_
  refine X_iload_n Γ d_M_cut_17 rfl 2 rfl rfl ?_
  refine X_aload_n Γ d_M_cut_18 rfl 1 rfl rfl ?_
  refine X_get Γ d_M_cut_19 (by decide) rfl rfl in_M 9 (by decide) w489 rfl rfl rfl ?_
  refine X_iload_n Γ d_M_cut_22 rfl 0 rfl rfl ?_
  refine X_iald (v := (G 3 ((f_M_underEpoch x1 (G 26 6) G)).toNatClampNeg)) Γ d_M_cut_23 (by decide) rfl 0 rfl (ue_in hb hT) rfl rfl ?_
  refine X_aload_n Γ d_M_cut_24 rfl 1 rfl rfl ?_
  refine X_get Γ d_M_cut_25 (by decide) rfl rfl in_M 33 (by decide) w513 rfl rfl rfl ?_
  refine X_iconst (v := 5) Γ d_M_cut_28 (by decide) rfl ?_
  refine X_iald (v := (G 26 5)) Γ d_M_cut_29 (by decide) rfl 0 rfl in5_8 rfl rfl ?_
  refine X_icmp_ge (tgt := 37) Γ d_M_cut_30 (by decide) rfl (fun h30 => ?_) (fun h30 => ?_)
  · replace E := E.trans (if_pos h30)
    refine X_aload_n Γ d_M_cut_37 rfl 1 rfl rfl ?_
    refine X_iload_n Γ d_M_cut_38 rfl 2 rfl rfl ?_
    refine X_aload_n Γ d_M_cut_39 rfl 1 rfl rfl ?_
    refine X_get Γ d_M_cut_40 (by decide) rfl rfl in_M 33 (by decide) w513 rfl rfl rfl ?_
    refine X_iconst (v := 5) Γ d_M_cut_43 (by decide) rfl ?_
    refine X_iald (v := (G 26 5)) Γ d_M_cut_44 (by decide) rfl 0 rfl in5_8 rfl rfl ?_
    refine X_callVi (rest := [.int x1, .ref (a 7)]) Γ d_M_cut_45 (m_M_upTo l D cI cZ cB cM a hJ G x1 (G 26 5) hb hT hw) (by decide) rfl rfl rfl w619 w621 s_M_upTo w9 w622 e_M_upTo ⟨by decide, by decide⟩ ⟨rfl, rfl⟩ rfl rfl (Nat.le_of_ble_eq_true rfl) rfl ?_
    refine X_iast (kx := x1.toNatClampNeg) Γ d_M_cut_48 (by decide) rfl 0 rfl hb (fun _ => rfl) rfl rfl ?_
    exact X_vret Γ d_M_cut_49 (gv_eq E)
  · replace E := E.trans (if_neg h30)
    refine X_iload_n Γ d_M_cut_33 rfl 0 rfl rfl ?_
    refine X_goto (pc' := 48) Γ d_M_cut_34 (by decide) ?_
    refine X_iast (kx := x1.toNatClampNeg) Γ d_M_cut_48 (by decide) rfl 0 rfl hb (fun _ => rfl) rfl rfl ?_
    exact X_vret Γ d_M_cut_49 (gv_eq E)
def f_M_extend (x1 : Int32) (G : Nat → Nat → Int32) : (Nat → Nat → Int32) := (jn (fun (t0_30 : Int32) => (jn (fun (t0_65 : Int32) => (if t0_65 ≤ ((g2 G 7 x1.toNatClampNeg t0_30) 8 x1.toNatClampNeg) then (g2 (g2 G 7 x1.toNatClampNeg t0_30) 8 x1.toNatClampNeg ((g2 G 7 x1.toNatClampNeg t0_30) 8 x1.toNatClampNeg)) else (g2 (g2 G 7 x1.toNatClampNeg t0_30) 8 x1.toNatClampNeg t0_65))) (fun (j65 : Int32 → (Nat → Nat → Int32)) => (if (G 3 ((g2 G 7 x1.toNatClampNeg t0_30) 7 x1.toNatClampNeg).toNatClampNeg) ≤ (G 26 6) then (j65 (G 3 ((g2 G 7 x1.toNatClampNeg t0_30) 7 x1.toNatClampNeg).toNatClampNeg)) else (j65 (G 26 6)))))) (fun (j30 : Int32 → (Nat → Nat → Int32)) => (if (G 26 5) ≤ 0 then (j30 (G 7 x1.toNatClampNeg)) else (j30 (G 26 7)))))
theorem e_M_extend : y_M_extend.cls ≠ "java/lang/invoke/MethodHandle" ∧ y_M_extend.cls ≠ "java/lang/invoke/VarHandle" ∧ (parseMethodDescriptor y_M_extend.desc).map (fun d => d.parameters.length) = some 1 := by decide +kernel
set_option maxHeartbeats 4000000 in
set_option maxRecDepth 100000 in
theorem m_M_extend (l : Launch) (D : va_G) (cI cZ cB cM : ClassId) (a : Nat → Nat) (hJ : xJ 27 a) (G : Nat → Nat → Int32) (x1 : Int32) (hb : vp_in x1 4) (hT : okT G) (hw : vp_in (G 26 7) 520) : Met l y_M_extend (Cond.code y_M_extend prog_8_method_28_code 4 (Option.none : Option FieldType) :: wsBig) { frames := 0, cells := 0, slots := 0, locals := 0 } (xP D xcl (xty cI cZ cB cM) 27 a (kg (kM cI cZ a) G) [.ref (a 0), .int x1]) (xQv D xcl 27 a (kg (kM cI cZ a) (f_M_extend x1 G))) 0 0 (xA 27 a) := by
  refine X_met (by decide) rfl (Nat.le_of_ble_eq_true rfl) hJ (fun Y s m args Γ => ?_)
  show X Y s m D xcl 27 a 4 (kg (kM cI cZ a) G) 0 [(0, .ref (a 0)), (1, .int x1)] []
  have E := f_M_extend.eq_1 x1 G
  refine X_aload_n Γ d_M_extend_0 rfl 0 rfl rfl ?_
  refine X_get Γ d_M_extend_1 (by decide) rfl rfl in_M 13 (by decide) w493 rfl rfl rfl ?_
  refine X_iload_n Γ d_M_extend_4 rfl 1 rfl rfl ?_
  refine X_aload_n Γ d_M_extend_5 rfl 0 rfl rfl ?_
  refine X_get Γ d_M_extend_6 (by decide) rfl rfl in_M 33 (by decide) w513 rfl rfl rfl ?_
  refine X_iconst (v := 5) Γ d_M_extend_9 (by decide) rfl ?_
  refine X_iald (v := (G 26 5)) Γ d_M_extend_10 (by decide) rfl 0 rfl in5_8 rfl rfl ?_
  refine jn_open E (fun j30 ej30 E => ?_)
  have J30 : ∀ (t0_30 : Int32), (vp_in t0_30 520) → f_M_extend x1 G = j30 t0_30 → X Y s m D xcl 27 a 4 (kg (kM cI cZ a) G) 30 [(0, .ref (a 0)), (1, .int x1)] [.int t0_30, .int x1, .ref (a 7)] := by
    intro t0_30 hI30 E
    rw [ej30] at E
    refine X_iast (kx := x1.toNatClampNeg) Γ d_M_extend_30 (by decide) rfl 0 rfl hb (fun _ => rfl) rfl rfl ?_
    refine X_aload_n Γ d_M_extend_31 rfl 0 rfl rfl ?_
    refine X_get Γ d_M_extend_32 (by decide) rfl rfl in_M 9 (by decide) w489 rfl rfl rfl ?_
    refine X_aload_n Γ d_M_extend_35 rfl 0 rfl rfl ?_
    refine X_get Γ d_M_extend_36 (by decide) rfl rfl in_M 13 (by decide) w493 rfl rfl rfl ?_
    refine X_iload_n Γ d_M_extend_39 rfl 1 rfl rfl ?_
    refine X_iald (v := ((g2 G 7 x1.toNatClampNeg t0_30) 7 x1.toNatClampNeg)) Γ d_M_extend_40 (by decide) rfl 0 rfl hb rfl rfl ?_
    refine X_iald (v := (G 3 ((g2 G 7 x1.toNatClampNeg t0_30) 7 x1.toNatClampNeg).toNatClampNeg)) Γ d_M_extend_41 (by decide) rfl 0 rfl (by rw [g2_at]; exact hI30) rfl rfl ?_
    refine X_istore_n Γ d_M_extend_42 rfl (by decide) rfl rfl ?_
    refine X_aload_n Γ d_M_extend_43 rfl 1 rfl rfl ?_
    refine X_get Γ d_M_extend_44 (by decide) rfl rfl in_M 33 (by decide) w513 rfl rfl rfl ?_
    refine X_bipush (v := 6) Γ d_M_extend_47 (by decide) rfl ?_
    refine X_iald (v := (G 26 6)) Γ d_M_extend_49 (by decide) rfl 0 rfl in6_8 rfl rfl ?_
    refine X_iload_n Γ d_M_extend_50 rfl 0 rfl rfl ?_
    refine jn_open E (fun j65 ej65 E => ?_)
    have J65 : ∀ (t0_65 : Int32), (True) → f_M_extend x1 G = j65 t0_65 → X Y s m D xcl 27 a 4 (kg (kM cI cZ a) (g2 G 7 x1.toNatClampNeg t0_30)) 65 [(0, .ref (a 0)), (1, .int x1), (2, .int (G 3 ((g2 G 7 x1.toNatClampNeg t0_30) 7 x1.toNatClampNeg).toNatClampNeg))] [.int t0_65] := by
      intro t0_65 hI65 E
      rw [ej65] at E
      refine X_istore_n Γ d_M_extend_65 rfl (by decide) rfl rfl ?_
      refine X_aload_n Γ d_M_extend_66 rfl 1 rfl rfl ?_
      refine X_get Γ d_M_extend_67 (by decide) rfl rfl in_M 14 (by decide) w494 rfl rfl rfl ?_
      refine X_iload_n Γ d_M_extend_70 rfl 2 rfl rfl ?_
      refine X_iload_n Γ d_M_extend_71 rfl 0 rfl rfl ?_
      refine X_aload_n Γ d_M_extend_72 rfl 1 rfl rfl ?_
      refine X_get Γ d_M_extend_73 (by decide) rfl rfl in_M 14 (by decide) w494 rfl rfl rfl ?_
      refine X_iload_n Γ d_M_extend_76 rfl 2 rfl rfl ?_
      refine X_iald (v := ((g2 G 7 x1.toNatClampNeg t0_30) 8 x1.toNatClampNeg)) Γ d_M_extend_77 (by decide) rfl 0 rfl hb rfl rfl ?_
      refine X_icmp_le (tgt := 85) Γ d_M_extend_78 (by decide) rfl (fun h78 => ?_) (fun h78 => ?_)
      · replace E := E.trans (if_pos h78)
        refine X_aload_n Γ d_M_extend_85 rfl 1 rfl rfl ?_
        refine X_get Γ d_M_extend_86 (by decide) rfl rfl in_M 14 (by decide) w494 rfl rfl rfl ?_
        refine X_iload_n Γ d_M_extend_89 rfl 2 rfl rfl ?_
        refine X_iald (v := ((g2 G 7 x1.toNatClampNeg t0_30) 8 x1.toNatClampNeg)) Γ d_M_extend_90 (by decide) rfl 0 rfl hb rfl rfl ?_
        refine X_iast (kx := x1.toNatClampNeg) Γ d_M_extend_91 (by decide) rfl 0 rfl hb (fun _ => rfl) rfl rfl ?_
        exact X_vret Γ d_M_extend_92 (gv_eq E)
      · replace E := E.trans (if_neg h78)
        refine X_iload_n Γ d_M_extend_81 rfl 0 rfl rfl ?_
        refine X_goto (pc' := 91) Γ d_M_extend_82 (by decide) ?_
        refine X_iast (kx := x1.toNatClampNeg) Γ d_M_extend_91 (by decide) rfl 0 rfl hb (fun _ => rfl) rfl rfl ?_
        exact X_vret Γ d_M_extend_92 (gv_eq E)
    refine X_icmp_ge (tgt := 64) Γ d_M_extend_51 (by decide) rfl (fun h51 => ?_) (fun h51 => ?_)
    · replace E := E.trans (if_pos h51)
      refine X_iload_n Γ d_M_extend_64 rfl 0 rfl rfl ?_
      refine X_loc [1, 2, 0] rfl ?_
      exact J65 (G 3 ((g2 G 7 x1.toNatClampNeg t0_30) 7 x1.toNatClampNeg).toNatClampNeg) trivial E
    · replace E := E.trans (if_neg h51)
      refine X_aload_n Γ d_M_extend_54 rfl 1 rfl rfl ?_
      refine X_get Γ d_M_extend_55 (by decide) rfl rfl in_M 33 (by decide) w513 rfl rfl rfl ?_
      refine X_bipush (v := 6) Γ d_M_extend_58 (by decide) rfl ?_
      refine X_iald (v := (G 26 6)) Γ d_M_extend_60 (by decide) rfl 0 rfl in6_8 rfl rfl ?_
      refine X_goto (pc' := 65) Γ d_M_extend_61 (by decide) ?_
      refine X_loc [1, 2, 0] rfl ?_
      exact J65 (G 26 6) trivial E
  refine X_if_le (tgt := 24) Γ d_M_extend_11 (by decide) rfl (fun h11 => ?_) (fun h11 => ?_)
  · replace E := E.trans (if_pos h11)
    refine X_aload_n Γ d_M_extend_24 rfl 0 rfl rfl ?_
    refine X_get Γ d_M_extend_25 (by decide) rfl rfl in_M 13 (by decide) w493 rfl rfl rfl ?_
    refine X_iload_n Γ d_M_extend_28 rfl 1 rfl rfl ?_
    refine X_iald (v := (G 7 x1.toNatClampNeg)) Γ d_M_extend_29 (by decide) rfl 0 rfl hb rfl rfl ?_
    refine X_loc [0, 1] rfl ?_
    exact J30 (G 7 x1.toNatClampNeg) (hT.1 _ (vp_lt hb)) E
  · replace E := E.trans (if_neg h11)
    refine X_aload_n Γ d_M_extend_14 rfl 0 rfl rfl ?_
    refine X_get Γ d_M_extend_15 (by decide) rfl rfl in_M 33 (by decide) w513 rfl rfl rfl ?_
    refine X_bipush (v := 7) Γ d_M_extend_18 (by decide) rfl ?_
    refine X_iald (v := (G 26 7)) Γ d_M_extend_20 (by decide) rfl 0 rfl in7_8 rfl rfl ?_
    refine X_goto (pc' := 30) Γ d_M_extend_21 (by decide) ?_
    refine X_loc [0, 1] rfl ?_
    exact J30 (G 26 7) hw E
def f_M_bits_5 (x1 : Int32) (x2 : Int32) (G : Nat → Nat → Int32) : Nat → Int32 → Int32 → Int32
  | 0, v3_5, v4_5 => 0
  | k5 + 1, v3_5, v4_5 => (if v4_5 < 0 then v3_5 else (jn (fun (t0_35 : Int32) => (jn (fun (t0_50 : Int32) => (f_M_bits_5 x1 x2 G k5 ((2 * v3_5) + t0_50) (v4_5 + (-1)))) (fun (j50 : Int32 → Int32) => (if t0_35 = 0 then (j50 0) else (j50 1))))) (fun (j35 : Int32 → Int32) => (if x1 = 0 then (j35 (G 14 ((4 * x2) + v4_5).toNatClampNeg)) else (j35 (G 1 v4_5.toNatClampNeg))))))
def f_M_bits (x1 : Int32) (x2 : Int32) (G : Nat → Nat → Int32) : Int32 := (f_M_bits_5 x1 x2 G 5 0 3)
theorem e_M_bits : y_M_bits.cls ≠ "java/lang/invoke/MethodHandle" ∧ y_M_bits.cls ≠ "java/lang/invoke/VarHandle" ∧ (parseMethodDescriptor y_M_bits.desc).map (fun d => d.parameters.length) = some 2 := by decide +kernel
set_option maxHeartbeats 4000000 in
set_option maxRecDepth 100000 in
theorem m_M_bits (l : Launch) (D : va_G) (cI cZ cB cM : ClassId) (a : Nat → Nat) (hJ : xJ 27 a) (G : Nat → Nat → Int32) (x1 : Int32) (x2 : Int32) (hb : vp_in x2 4) : Met l y_M_bits (Cond.code y_M_bits prog_8_method_29_code 6 (Option.some FieldType.int) :: wsBig) { frames := 0, cells := 0, slots := 0, locals := 0 } (xP D xcl (xty cI cZ cB cM) 27 a (kg (kM cI cZ a) G) [.ref (a 0), .int x1, .int x2]) (xQi D xcl 27 a (f_M_bits x1 x2 G) (kg (kM cI cZ a) G)) 0 0 (xA 27 a) := by
  refine X_met (by decide) rfl (Nat.le_of_ble_eq_true rfl) hJ (fun Y s m args Γ => ?_)
  show X Y s m D xcl 27 a 6 (kg (kM cI cZ a) G) 0 [(0, .ref (a 0)), (1, .int x1), (2, .int x2)] []
  have E := f_M_bits.eq_1 x1 x2 G
  refine X_iconst (v := 0) Γ d_M_bits_0 (by decide) rfl ?_
  refine X_istore_n Γ d_M_bits_1 rfl (by decide) rfl rfl ?_
  refine X_iconst (v := 3) Γ d_M_bits_2 (by decide) rfl ?_
  refine X_istore Γ d_M_bits_3 (by decide) rfl rfl ?_
  have J5 : ∀ (k5 : Nat) (v3_5 : Int32) (v4_5 : Int32), (0 < k5 ∧ k5 ≤ 5 ∧ v4_5 = nI (k5 - 1) - 1) → f_M_bits x1 x2 G = f_M_bits_5 x1 x2 G k5 v3_5 v4_5 → X Y s m D xcl 27 a 6 (kg (kM cI cZ a) G) 5 [(0, .ref (a 0)), (1, .int x1), (2, .int x2), (3, .int v3_5), (4, .int v4_5)] [] := by
    intro k5
    induction k5 with
    | zero => exact fun v3_5 v4_5 hI5 _ => absurd hI5 (fun h => Nat.lt_irrefl 0 h.1)
    | succ k5 ih5 =>
      intro v3_5 v4_5 hI5 E
      rw [f_M_bits_5] at E
      refine X_iload Γ d_M_bits_5 4 rfl rfl ?_
      refine X_if_lt (tgt := 58) Γ d_M_bits_7 (by decide) rfl (fun h7 => ?_) (fun h7 => ?_)
      · replace E := E.trans (if_pos h7)
        refine X_iload_n Γ d_M_bits_58 rfl 3 rfl rfl ?_
        exact X_ireti Γ d_M_bits_59 E.symm rfl
      · replace E := E.trans (if_neg h7)
        refine X_iload_n Γ d_M_bits_10 rfl 1 rfl rfl ?_
        refine jn_open E (fun j35 ej35 E => ?_)
        have J35 : ∀ (t0_35 : Int32), (True) → f_M_bits x1 x2 G = j35 t0_35 → X Y s m D xcl 27 a 6 (kg (kM cI cZ a) G) 35 [(0, .ref (a 0)), (1, .int x1), (2, .int x2), (3, .int v3_5), (4, .int v4_5)] [.int t0_35] := by
          intro t0_35 hI35 E
          rw [ej35] at E
          refine X_istore Γ d_M_bits_35 (by decide) rfl rfl ?_
          refine X_iconst (v := 2) Γ d_M_bits_37 (by decide) rfl ?_
          refine X_iload_n Γ d_M_bits_38 rfl 4 rfl rfl ?_
          refine X_imul Γ d_M_bits_39 rfl ?_
          refine X_iload Γ d_M_bits_40 0 rfl rfl ?_
          refine jn_open E (fun j50 ej50 E => ?_)
          have J50 : ∀ (t0_50 : Int32), (True) → f_M_bits x1 x2 G = j50 t0_50 → X Y s m D xcl 27 a 6 (kg (kM cI cZ a) G) 50 [(0, .ref (a 0)), (1, .int x1), (2, .int x2), (3, .int v3_5), (4, .int v4_5), (5, .int t0_35)] [.int t0_50, .int (2 * v3_5)] := by
            intro t0_50 hI50 E
            rw [ej50] at E
            refine X_iadd Γ d_M_bits_50 rfl ?_
            refine X_istore_n Γ d_M_bits_51 rfl (by decide) rfl rfl ?_
            refine X_iinc (v := (v4_5 + (-1))) Γ d_M_bits_52 4 rfl rfl (by decide) rfl rfl ?_
            refine X_goto (pc' := 5) Γ d_M_bits_55 (by decide) ?_
            refine X_loc [2, 3, 4, 1, 0] rfl ?_
            exact ih5 ((2 * v3_5) + t0_50) (v4_5 + (-1)) (ld_step (by decide) (by decide) hI5.1 hI5.2.1 hI5.2.2 h7) E
          refine X_if_eq (tgt := 49) Γ d_M_bits_42 (by decide) rfl (fun h42 => ?_) (fun h42 => ?_)
          · replace E := E.trans (if_pos h42)
            refine X_iconst (v := 0) Γ d_M_bits_49 (by decide) rfl ?_
            refine X_loc [1, 2, 3, 4, 5, 0] rfl ?_
            exact J50 0 trivial E
          · replace E := E.trans (if_neg h42)
            refine X_iconst (v := 1) Γ d_M_bits_45 (by decide) rfl ?_
            refine X_goto (pc' := 50) Γ d_M_bits_46 (by decide) ?_
            refine X_loc [1, 2, 3, 4, 5, 0] rfl ?_
            exact J50 1 trivial E
        refine X_if_eq (tgt := 24) Γ d_M_bits_11 (by decide) rfl (fun h11 => ?_) (fun h11 => ?_)
        · replace E := E.trans (if_pos h11)
          refine X_aload_n Γ d_M_bits_24 rfl 0 rfl rfl ?_
          refine X_get Γ d_M_bits_25 (by decide) rfl rfl in_M 20 (by decide) w500 rfl rfl rfl ?_
          refine X_iconst (v := 4) Γ d_M_bits_28 (by decide) rfl ?_
          refine X_iload_n Γ d_M_bits_29 rfl 2 rfl rfl ?_
          refine X_imul Γ d_M_bits_30 rfl ?_
          refine X_iload Γ d_M_bits_31 4 rfl rfl ?_
          refine X_iadd Γ d_M_bits_33 rfl ?_
          refine X_zald (v := (G 14 ((4 * x2) + v4_5).toNatClampNeg)) Γ d_M_bits_34 (by decide) rfl 1 rfl (at16 hb (ld_in (by decide) (by decide) hI5.2.1 hI5.2.2 h7)) rfl rfl ?_
          refine X_loc [0, 1, 2, 3, 4] rfl ?_
          exact J35 (G 14 ((4 * x2) + v4_5).toNatClampNeg) trivial E
        · replace E := E.trans (if_neg h11)
          refine X_aload_n Γ d_M_bits_14 rfl 0 rfl rfl ?_
          refine X_get Γ d_M_bits_15 (by decide) rfl rfl in_M 6 (by decide) w486 rfl rfl rfl ?_
          refine X_iload Γ d_M_bits_18 4 rfl rfl ?_
          refine X_zald (v := (G 1 v4_5.toNatClampNeg)) Γ d_M_bits_20 (by decide) rfl 1 rfl (ld_in (by decide) (by decide) hI5.2.1 hI5.2.2 h7) rfl rfl ?_
          refine X_goto (pc' := 35) Γ d_M_bits_21 (by decide) ?_
          refine X_loc [0, 1, 2, 3, 4] rfl ?_
          exact J35 (G 1 v4_5.toNatClampNeg) trivial E
  refine X_loc [2, 3, 4, 1, 0] rfl ?_
  exact J5 5 0 3 (⟨by decide, by decide, by decide⟩) E
def f_M_alive (x1 : Int32) (x2 : Int32) (G : Nat → Nat → Int32) : Int32 := (if (G 9 x1.toNatClampNeg) = 0 then 0 else (if ((x2 >>> (x1 &&& 31)) &&& 1) = 0 then 1 else 0))
theorem e_M_alive : y_M_alive.cls ≠ "java/lang/invoke/MethodHandle" ∧ y_M_alive.cls ≠ "java/lang/invoke/VarHandle" ∧ (parseMethodDescriptor y_M_alive.desc).map (fun d => d.parameters.length) = some 2 := by decide +kernel
set_option maxHeartbeats 4000000 in
set_option maxRecDepth 100000 in
theorem m_M_alive (l : Launch) (D : va_G) (cI cZ cB cM : ClassId) (a : Nat → Nat) (hJ : xJ 27 a) (G : Nat → Nat → Int32) (x1 : Int32) (x2 : Int32) (hb : vp_in x1 4) : Met l y_M_alive (Cond.code y_M_alive prog_8_method_34_code 3 (Option.some FieldType.boolean) :: wsBig) { frames := 0, cells := 0, slots := 0, locals := 0 } (xP D xcl (xty cI cZ cB cM) 27 a (kg (kM cI cZ a) G) [.ref (a 0), .int x1, .int x2]) (xQi D xcl 27 a (f_M_alive x1 x2 G) (kg (kM cI cZ a) G)) 0 0 (xA 27 a) := by
  refine X_met (by decide) rfl (Nat.le_of_ble_eq_true rfl) hJ (fun Y s m args Γ => ?_)
  show X Y s m D xcl 27 a 3 (kg (kM cI cZ a) G) 0 [(0, .ref (a 0)), (1, .int x1), (2, .int x2)] []
  have E := f_M_alive.eq_1 x1 x2 G
  refine X_aload_n Γ d_M_alive_0 rfl 0 rfl rfl ?_
  refine X_get Γ d_M_alive_1 (by decide) rfl rfl in_M 15 (by decide) w495 rfl rfl rfl ?_
  refine X_iload_n Γ d_M_alive_4 rfl 1 rfl rfl ?_
  refine X_zald (v := (G 9 x1.toNatClampNeg)) Γ d_M_alive_5 (by decide) rfl 1 rfl hb rfl rfl ?_
  refine X_if_eq (tgt := 21) Γ d_M_alive_6 (by decide) rfl (fun h6 => ?_) (fun h6 => ?_)
  · replace E := E.trans (if_pos h6)
    refine X_iconst (v := 0) Γ d_M_alive_21 (by decide) rfl ?_
    exact X_iretz Γ d_M_alive_22 rfl E.symm rfl
  · replace E := E.trans (if_neg h6)
    refine X_iload_n Γ d_M_alive_9 rfl 2 rfl rfl ?_
    refine X_iload_n Γ d_M_alive_10 rfl 1 rfl rfl ?_
    refine X_ishr Γ d_M_alive_11 rfl ?_
    refine X_iconst (v := 1) Γ d_M_alive_12 (by decide) rfl ?_
    refine X_iand Γ d_M_alive_13 rfl ?_
    refine X_if_ne (tgt := 21) Γ d_M_alive_14 (by decide) rfl (fun h14 => ?_) (fun h14 => ?_)
    · replace E := E.trans (if_neg h14)
      refine X_iconst (v := 0) Γ d_M_alive_21 (by decide) rfl ?_
      exact X_iretz Γ d_M_alive_22 rfl E.symm rfl
    · replace E := E.trans (if_pos h14)
      refine X_iconst (v := 1) Γ d_M_alive_17 (by decide) rfl ?_
      refine X_goto (pc' := 22) Γ d_M_alive_18 (by decide) ?_
      exact X_iretz Γ d_M_alive_22 rfl E.symm rfl
def f_M_review_27 (x1 : Int32) (G : Nat → Nat → Int32) : Nat → Int32 → (Nat → Nat → Int32) → Int32 × (Nat → Nat → Int32)
  | 0, v2_27, Gv27 => (0, Gv27)
  | k27 + 1, v2_27, Gv27 => (if 4 ≤ v2_27 then (((f_M_bits 1 0 ((f_M_rise x1 Gv27)))), ((f_M_rise x1 Gv27))) else (jn (fun (t0_61 : Int32) => (jn (fun (t0_117 : Int32) => (f_M_review_27 x1 G k27 (v2_27 + 1) (g2 (g2 Gv27 14 ((4 * x1) + v2_27).toNatClampNeg t0_117) 1 v2_27.toNatClampNeg t0_117))) (fun (j117 : Int32 → Int32 × (Nat → Nat → Int32)) => (if v2_27 = x1 then (j117 1) else (if t0_61 = 0 then (j117 0) else (if (Gv27 14 ((4 * x1) + v2_27).toNatClampNeg) = 0 then (if (Gv27 15 ((4 * x1) + v2_27).toNatClampNeg) < (Gv27 8 x1.toNatClampNeg) then (j117 0) else (if (Gv27 15 ((4 * x1) + v2_27).toNatClampNeg) < (Gv27 17 x1.toNatClampNeg) then (j117 0) else (j117 1))) else (j117 1))))))) (fun (j61 : Int32 → Int32 × (Nat → Nat → Int32)) => (if (Gv27 0 0) < ((Gv27 0 3) - (Gv27 16 ((4 * x1) + v2_27).toNatClampNeg)) then (j61 0) else (j61 1)))))
def f_M_review (x1 : Int32) (G : Nat → Nat → Int32) : Int32 × (Nat → Nat → Int32) := (if ((f_M_leads x1 G)) = 0 then ((-1), G) else (if (G 10 x1.toNatClampNeg) = (G 0 4) then (f_M_review_27 x1 G 5 0 G) else ((-1), G)))
theorem e_M_review : y_M_review.cls ≠ "java/lang/invoke/MethodHandle" ∧ y_M_review.cls ≠ "java/lang/invoke/VarHandle" ∧ (parseMethodDescriptor y_M_review.desc).map (fun d => d.parameters.length) = some 1 := by decide +kernel
set_option maxHeartbeats 4000000 in
set_option maxRecDepth 100000 in
theorem m_M_review (l : Launch) (D : va_G) (cI cZ cB cM : ClassId) (a : Nat → Nat) (hJ : xJ 27 a) (G : Nat → Nat → Int32) (x1 : Int32) (hT : okT G) : Met l y_M_review (Cond.code y_M_review prog_8_method_30_code 6 (Option.some FieldType.int) :: wsBig) { frames := 2, cells := 0, slots := 0, locals := 41 } (xP D xcl (xty cI cZ cB cM) 27 a (kg (kM cI cZ a) G) [.ref (a 0), .int x1]) (xQi D xcl 27 a ((f_M_review x1 G).1) (kg (kM cI cZ a) ((f_M_review x1 G).2))) 0 0 (xA 27 a) := by
  refine X_met (by decide) rfl (Nat.le_of_ble_eq_true rfl) hJ (fun Y s m args Γ => ?_)
  show X Y s m D xcl 27 a 6 (kg (kM cI cZ a) G) 0 [(0, .ref (a 0)), (1, .int x1)] []
  have E := f_M_review.eq_1 x1 G
  refine X_aload_n Γ d_M_review_0 rfl 0 rfl rfl ?_
  refine X_iload_n Γ d_M_review_1 rfl 1 rfl rfl ?_
  refine X_callVi (rest := []) Γ d_M_review_2 (m_M_leads l D cI cZ cB cM a hJ G x1) (by decide) rfl rfl rfl w588 w590 s_M_leads w9 w591 e_M_leads ⟨by decide, by decide⟩ ⟨rfl, rfl⟩ rfl rfl (Nat.le_of_ble_eq_true rfl) rfl ?_
  refine X_if_ne (tgt := 10) Γ d_M_review_5 (by decide) rfl (fun h5 => ?_) (fun h5 => ?_)
  · replace E := E.trans (if_neg h5)
    refine X_aload_n Γ d_M_review_10 rfl 0 rfl rfl ?_
    refine X_get Γ d_M_review_11 (by decide) rfl rfl in_M 16 (by decide) w496 rfl rfl rfl ?_
    refine X_iload_n Γ d_M_review_14 rfl 1 rfl rfl ?_
    refine X_iald (v := (G 10 x1.toNatClampNeg)) Γ d_M_review_15 (by decide) rfl 0 rfl (isLM_in h5) rfl rfl ?_
    refine X_aload_n Γ d_M_review_16 rfl 0 rfl rfl ?_
    refine X_get Γ d_M_review_17 (by decide) rfl rfl in_M 4 (by decide) w484 rfl rfl rfl ?_
    refine X_icmp_eq (tgt := 25) Γ d_M_review_20 (by decide) rfl (fun h20 => ?_) (fun h20 => ?_)
    · replace E := E.trans (if_pos h20)
      refine X_iconst (v := 0) Γ d_M_review_25 (by decide) rfl ?_
      refine X_istore_n Γ d_M_review_26 rfl (by decide) rfl rfl ?_
      have J27 : ∀ (k27 : Nat) (v2_27 : Int32) (Gv27 : Nat → Nat → Int32), (0 < k27 ∧ k27 ≤ 5 ∧ v2_27 = nI (5 - k27) ∧ same3 G Gv27) → f_M_review x1 G = f_M_review_27 x1 G k27 v2_27 Gv27 → X Y s m D xcl 27 a 6 (kg (kM cI cZ a) Gv27) 27 [(0, .ref (a 0)), (1, .int x1), (2, .int v2_27)] [] := by
        intro k27
        induction k27 with
        | zero => exact fun v2_27 Gv27 hI27 _ => absurd hI27 (fun h => Nat.lt_irrefl 0 h.1)
        | succ k27 ih27 =>
          intro v2_27 Gv27 hI27 E
          rw [f_M_review_27] at E
          refine X_iload_n Γ d_M_review_27 rfl 2 rfl rfl ?_
          refine X_iconst (v := 4) Γ d_M_review_28 (by decide) rfl ?_
          refine X_icmp_ge (tgt := 141) Γ d_M_review_29 (by decide) rfl (fun h29 => ?_) (fun h29 => ?_)
          · replace E := E.trans (if_pos h29)
            refine X_aload_n Γ d_M_review_141 rfl 0 rfl rfl ?_
            refine X_iload_n Γ d_M_review_142 rfl 1 rfl rfl ?_
            refine X_callVv (rest := []) Γ d_M_review_143 (m_M_rise l D cI cZ cB cM a hJ Gv27 x1 (isLM_in h5) (okT_of3 hT hI27.2.2.2)) (by decide) rfl rfl rfl w603 w605 s_M_rise w9 w606 e_M_rise ⟨by decide, by decide⟩ ⟨rfl, rfl⟩ rfl rfl (Nat.le_of_ble_eq_true rfl) rfl ?_
            refine X_aload_n Γ d_M_review_146 rfl 0 rfl rfl ?_
            refine X_iconst (v := 1) Γ d_M_review_147 (by decide) rfl ?_
            refine X_iconst (v := 0) Γ d_M_review_148 (by decide) rfl ?_
            refine X_callVi (rest := []) Γ d_M_review_149 (m_M_bits l D cI cZ cB cM a hJ ((f_M_rise x1 Gv27)) 1 0 in0_4) (by decide) rfl rfl rfl w692 w694 s_M_bits w9 w695 e_M_bits ⟨by decide, by decide⟩ ⟨rfl, rfl⟩ rfl rfl (Nat.le_of_ble_eq_true rfl) rfl ?_
            exact X_ireti Γ d_M_review_152 (g_r E) (g_eq E)
          · replace E := E.trans (if_neg h29)
            refine X_iconst (v := 4) Γ d_M_review_32 (by decide) rfl ?_
            refine X_iload_n Γ d_M_review_33 rfl 1 rfl rfl ?_
            refine X_imul Γ d_M_review_34 rfl ?_
            refine X_iload_n Γ d_M_review_35 rfl 2 rfl rfl ?_
            refine X_iadd Γ d_M_review_36 rfl ?_
            refine X_istore_n Γ d_M_review_37 rfl (by decide) rfl rfl ?_
            refine X_aload_n Γ d_M_review_38 rfl 1 rfl rfl ?_
            refine X_get Γ d_M_review_39 (by decide) rfl rfl in_M 3 (by decide) w483 rfl rfl rfl ?_
            refine X_aload_n Γ d_M_review_42 rfl 1 rfl rfl ?_
            refine X_get Γ d_M_review_43 (by decide) rfl rfl in_M 22 (by decide) w502 rfl rfl rfl ?_
            refine X_iload_n Γ d_M_review_46 rfl 0 rfl rfl ?_
            refine X_iald (v := (Gv27 16 ((4 * x1) + v2_27).toNatClampNeg)) Γ d_M_review_47 (by decide) rfl 0 rfl (at16 (isLM_in h5) (lc_in (by decide) (by decide) hI27.2.1 hI27.2.2.1 h29)) rfl rfl ?_
            refine X_isub Γ d_M_review_48 rfl ?_
            refine X_aload_n Γ d_M_review_49 rfl 1 rfl rfl ?_
            refine X_get Γ d_M_review_50 (by decide) rfl rfl in_M 0 (by decide) w480 rfl rfl rfl ?_
            refine jn_open E (fun j61 ej61 E => ?_)
            have J61 : ∀ (t0_61 : Int32), (True) → f_M_review x1 G = j61 t0_61 → X Y s m D xcl 27 a 6 (kg (kM cI cZ a) Gv27) 61 [(0, .ref (a 0)), (1, .int x1), (2, .int v2_27), (3, .int ((4 * x1) + v2_27))] [.int t0_61] := by
              intro t0_61 hI61 E
              rw [ej61] at E
              refine X_istore Γ d_M_review_61 (by decide) rfl rfl ?_
              refine X_iload_n Γ d_M_review_63 rfl 3 rfl rfl ?_
              refine X_iload_n Γ d_M_review_64 rfl 2 rfl rfl ?_
              refine jn_open E (fun j117 ej117 E => ?_)
              have J117 : ∀ (t0_117 : Int32), (zb t0_117) → f_M_review x1 G = j117 t0_117 → X Y s m D xcl 27 a 6 (kg (kM cI cZ a) Gv27) 117 [(0, .ref (a 0)), (1, .int x1), (2, .int v2_27), (3, .int ((4 * x1) + v2_27)), (4, .int t0_61)] [.int t0_117] := by
                intro t0_117 hI117 E
                rw [ej117] at E
                refine X_istore Γ d_M_review_117 (by decide) rfl rfl ?_
                refine X_aload_n Γ d_M_review_119 rfl 1 rfl rfl ?_
                refine X_get Γ d_M_review_120 (by decide) rfl rfl in_M 20 (by decide) w500 rfl rfl rfl ?_
                refine X_iload_n Γ d_M_review_123 rfl 4 rfl rfl ?_
                refine X_iload Γ d_M_review_124 0 rfl rfl ?_
                refine X_zast (kx := ((4 * x1) + v2_27).toNatClampNeg) Γ d_M_review_126 (by decide) rfl 1 rfl (at16 (isLM_in h5) (lc_in (by decide) (by decide) hI27.2.1 hI27.2.2.1 h29)) (zb_nar hI117) (fun _ => rfl) rfl rfl ?_
                refine X_aload_n Γ d_M_review_127 rfl 1 rfl rfl ?_
                refine X_get Γ d_M_review_128 (by decide) rfl rfl in_M 6 (by decide) w486 rfl rfl rfl ?_
                refine X_iload_n Γ d_M_review_131 rfl 3 rfl rfl ?_
                refine X_iload Γ d_M_review_132 0 rfl rfl ?_
                refine X_zast (kx := v2_27.toNatClampNeg) Γ d_M_review_134 (by decide) rfl 1 rfl (lc_in (by decide) (by decide) hI27.2.1 hI27.2.2.1 h29) (zb_nar hI117) (fun _ => rfl) rfl rfl ?_
                refine X_iinc (v := (v2_27 + 1)) Γ d_M_review_135 3 rfl rfl (by decide) rfl rfl ?_
                refine X_goto (pc' := 27) Γ d_M_review_138 (by decide) ?_
                refine X_loc [2, 3, 0] rfl ?_
                exact ih27 (v2_27 + 1) (g2 (g2 Gv27 14 ((4 * x1) + v2_27).toNatClampNeg t0_117) 1 v2_27.toNatClampNeg t0_117) (⟨(lc_step (by decide) (by decide) hI27.1 hI27.2.1 hI27.2.2.1 h29).1, (lc_step (by decide) (by decide) hI27.1 hI27.2.1 hI27.2.2.1 h29).2.1, (lc_step (by decide) (by decide) hI27.1 hI27.2.1 hI27.2.2.1 h29).2.2, hI27.2.2.2⟩) E
              refine X_icmp_eq (tgt := 112) Γ d_M_review_65 (by decide) rfl (fun h65 => ?_) (fun h65 => ?_)
              · replace E := E.trans (if_pos h65)
                refine X_iconst (v := 1) Γ d_M_review_112 (by decide) rfl ?_
                refine X_goto (pc' := 117) Γ d_M_review_113 (by decide) ?_
                refine X_loc [1, 2, 3, 4, 0] rfl ?_
                exact J117 1 (Or.inr rfl) E
              · replace E := E.trans (if_neg h65)
                refine X_iload Γ d_M_review_68 0 rfl rfl ?_
                refine X_if_eq (tgt := 116) Γ d_M_review_70 (by decide) rfl (fun h70 => ?_) (fun h70 => ?_)
                · replace E := E.trans (if_pos h70)
                  refine X_iconst (v := 0) Γ d_M_review_116 (by decide) rfl ?_
                  refine X_loc [1, 2, 3, 4, 0] rfl ?_
                  exact J117 0 (Or.inl rfl) E
                · replace E := E.trans (if_neg h70)
                  refine X_aload_n Γ d_M_review_73 rfl 1 rfl rfl ?_
                  refine X_get Γ d_M_review_74 (by decide) rfl rfl in_M 20 (by decide) w500 rfl rfl rfl ?_
                  refine X_iload_n Γ d_M_review_77 rfl 4 rfl rfl ?_
                  refine X_zald (v := (Gv27 14 ((4 * x1) + v2_27).toNatClampNeg)) Γ d_M_review_78 (by decide) rfl 1 rfl (at16 (isLM_in h5) (lc_in (by decide) (by decide) hI27.2.1 hI27.2.2.1 h29)) rfl rfl ?_
                  refine X_if_ne (tgt := 112) Γ d_M_review_79 (by decide) rfl (fun h79 => ?_) (fun h79 => ?_)
                  · replace E := E.trans (if_neg h79)
                    refine X_iconst (v := 1) Γ d_M_review_112 (by decide) rfl ?_
                    refine X_goto (pc' := 117) Γ d_M_review_113 (by decide) ?_
                    refine X_loc [1, 2, 3, 4, 0] rfl ?_
                    exact J117 1 (Or.inr rfl) E
                  · replace E := E.trans (if_pos h79)
                    refine X_aload_n Γ d_M_review_82 rfl 1 rfl rfl ?_
                    refine X_get Γ d_M_review_83 (by decide) rfl rfl in_M 21 (by decide) w501 rfl rfl rfl ?_
                    refine X_iload_n Γ d_M_review_86 rfl 4 rfl rfl ?_
                    refine X_iald (v := (Gv27 15 ((4 * x1) + v2_27).toNatClampNeg)) Γ d_M_review_87 (by decide) rfl 0 rfl (at16 (isLM_in h5) (lc_in (by decide) (by decide) hI27.2.1 hI27.2.2.1 h29)) rfl rfl ?_
                    refine X_aload_n Γ d_M_review_88 rfl 1 rfl rfl ?_
                    refine X_get Γ d_M_review_89 (by decide) rfl rfl in_M 14 (by decide) w494 rfl rfl rfl ?_
                    refine X_iload_n Γ d_M_review_92 rfl 2 rfl rfl ?_
                    refine X_iald (v := (Gv27 8 x1.toNatClampNeg)) Γ d_M_review_93 (by decide) rfl 0 rfl (isLM_in h5) rfl rfl ?_
                    refine X_icmp_lt (tgt := 116) Γ d_M_review_94 (by decide) rfl (fun h94 => ?_) (fun h94 => ?_)
                    · replace E := E.trans (if_pos h94)
                      refine X_iconst (v := 0) Γ d_M_review_116 (by decide) rfl ?_
                      refine X_loc [1, 2, 3, 4, 0] rfl ?_
                      exact J117 0 (Or.inl rfl) E
                    · replace E := E.trans (if_neg h94)
                      refine X_aload_n Γ d_M_review_97 rfl 1 rfl rfl ?_
                      refine X_get Γ d_M_review_98 (by decide) rfl rfl in_M 21 (by decide) w501 rfl rfl rfl ?_
                      refine X_iload_n Γ d_M_review_101 rfl 4 rfl rfl ?_
                      refine X_iald (v := (Gv27 15 ((4 * x1) + v2_27).toNatClampNeg)) Γ d_M_review_102 (by decide) rfl 0 rfl (at16 (isLM_in h5) (lc_in (by decide) (by decide) hI27.2.1 hI27.2.2.1 h29)) rfl rfl ?_
                      refine X_aload_n Γ d_M_review_103 rfl 1 rfl rfl ?_
                      refine X_get Γ d_M_review_104 (by decide) rfl rfl in_M 23 (by decide) w503 rfl rfl rfl ?_
                      refine X_iload_n Γ d_M_review_107 rfl 2 rfl rfl ?_
                      refine X_iald (v := (Gv27 17 x1.toNatClampNeg)) Γ d_M_review_108 (by decide) rfl 0 rfl (isLM_in h5) rfl rfl ?_
                      refine X_icmp_lt (tgt := 116) Γ d_M_review_109 (by decide) rfl (fun h109 => ?_) (fun h109 => ?_)
                      · replace E := E.trans (if_pos h109)
                        refine X_iconst (v := 0) Γ d_M_review_116 (by decide) rfl ?_
                        refine X_loc [1, 2, 3, 4, 0] rfl ?_
                        exact J117 0 (Or.inl rfl) E
                      · replace E := E.trans (if_neg h109)
                        refine X_iconst (v := 1) Γ d_M_review_112 (by decide) rfl ?_
                        refine X_goto (pc' := 117) Γ d_M_review_113 (by decide) ?_
                        refine X_loc [1, 2, 3, 4, 0] rfl ?_
                        exact J117 1 (Or.inr rfl) E
            refine X_icmp_gt (tgt := 60) Γ d_M_review_53 (by decide) rfl (fun h53 => ?_) (fun h53 => ?_)
            · replace E := E.trans (if_pos h53)
              refine X_iconst (v := 0) Γ d_M_review_60 (by decide) rfl ?_
              refine X_loc [1, 2, 3, 0] rfl ?_
              exact J61 0 trivial E
            · replace E := E.trans (if_neg h53)
              refine X_iconst (v := 1) Γ d_M_review_56 (by decide) rfl ?_
              refine X_goto (pc' := 61) Γ d_M_review_57 (by decide) ?_
              refine X_loc [1, 2, 3, 0] rfl ?_
              exact J61 1 trivial E
      refine X_loc [1, 2, 0] rfl ?_
      exact J27 5 0 G (⟨by decide, by decide, by decide, ⟨rfl, rfl, rfl⟩⟩) E
    · replace E := E.trans (if_neg h20)
      refine X_iconst (v := (-1)) Γ d_M_review_23 (by decide) rfl ?_
      exact X_ireti Γ d_M_review_24 (g_r E) (g_eq E)
  · replace E := E.trans (if_pos h5)
    refine X_iconst (v := (-1)) Γ d_M_review_8 (by decide) rfl ?_
    exact X_ireti Γ d_M_review_9 (g_r E) (g_eq E)
