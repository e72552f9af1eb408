def f_M_append (x1 : Int32) (x2 : Int32) (x3 : Int32) (G : Nat → Nat → Int32) : Int32 × (Nat → Nat → Int32) := (if (G 3 (G 7 x1.toNatClampNeg).toNatClampNeg) < 40 then (if (G 0 2) ≤ ((f_M_syncSize x1 G)) then (jn (fun (Gv126 : Nat → Nat → Int32) => (((((f_M_rise x1 Gv126)) 3 (((f_M_rise x1 Gv126)) 0 7).toNatClampNeg) - 1), ((f_M_rise x1 Gv126)))) (fun (j126 : (Nat → Nat → Int32) → Int32 × (Nat → Nat → Int32)) => (j126 (g2 (g2 (g2 (g2 (g2 (g2 (g2 G 0 7 ((G 0 7) + 1)) 2 ((G 0 7) + 1).toNatClampNeg (G 7 x1.toNatClampNeg)) 3 ((G 0 7) + 1).toNatClampNeg ((G 3 (G 7 x1.toNatClampNeg).toNatClampNeg) + 1)) 4 ((G 0 7) + 1).toNatClampNeg (G 10 x1.toNatClampNeg)) 5 ((G 0 7) + 1).toNatClampNeg x2) 6 ((G 0 7) + 1).toNatClampNeg x3) 7 x1.toNatClampNeg ((G 0 7) + 1))))) else ((-3), G)) else ((-2), G))
theorem e_M_append : y_M_append.cls ≠ "java/lang/invoke/MethodHandle" ∧ y_M_append.cls ≠ "java/lang/invoke/VarHandle" ∧ (parseMethodDescriptor y_M_append.desc).map (fun d => d.parameters.length) = some 3 := by decide +kernel
set_option maxHeartbeats 4000000 in
set_option maxRecDepth 100000 in
theorem m_M_append (l : Launch) (D : va_G) (cI cZ cB cM : ClassId) (a : Nat → Nat) (hJ : xJ 27 a) (G : Nat → Nat → Int32) (x1 : Int32) (x2 : Int32) (x3 : Int32) (hb : vp_in x1 4) (hT : okT G) (hz : vp_nar .boolean x3 = x3) (hR : 0 ≤ (G 0 7).toInt ∧ (G 0 7).toInt < 519) (hl : ∀ j : Nat, j < 4 → (G 7 j).toInt ≤ (G 0 7).toInt) : Met l y_M_append (Cond.code y_M_append prog_8_method_9_code 4 (Option.some FieldType.int) :: wsBig) { frames := 1, cells := 0, slots := 0, locals := 24 } (xP D xcl (xty cI cZ cB cM) 27 a (kg (kM cI cZ a) G) [.ref (a 0), .int x1, .int x2, .int x3]) (xQi D xcl 27 a ((f_M_append x1 x2 x3 G).1) (kg (kM cI cZ a) ((f_M_append x1 x2 x3 G).2))) 0 0 (xA 27 a) := by
  refine X_met (by decide) rfl (Nat.le_of_ble_eq_true rfl) hJ (fun Y s m args Γ => ?_)
  show X Y s m D xcl 27 a 4 (kg (kM cI cZ a) G) 0 [(0, .ref (a 0)), (1, .int x1), (2, .int x2), (3, .int x3)] []
  have E := f_M_append.eq_1 x1 x2 x3 G
  refine X_aload_n Γ d_M_append_0 rfl 0 rfl rfl ?_
  refine X_get Γ d_M_append_1 (by decide) rfl rfl in_M 9 (by decide) w489 rfl rfl rfl ?_
  refine X_aload_n Γ d_M_append_4 rfl 0 rfl rfl ?_
  refine X_get Γ d_M_append_5 (by decide) rfl rfl in_M 13 (by decide) w493 rfl rfl rfl ?_
  refine X_iload_n Γ d_M_append_8 rfl 1 rfl rfl ?_
  refine X_iald (v := (G 7 x1.toNatClampNeg)) Γ d_M_append_9 (by decide) rfl 0 rfl hb rfl rfl ?_
  refine X_iald (v := (G 3 (G 7 x1.toNatClampNeg).toNatClampNeg)) Γ d_M_append_10 (by decide) rfl 0 rfl (hT.1 _ (vp_lt hb)) rfl rfl ?_
  refine X_bipush (v := 40) Γ d_M_append_11 (by decide) rfl ?_
  refine X_icmp_lt (tgt := 19) Γ d_M_append_13 (by decide) rfl (fun h13 => ?_) (fun h13 => ?_)
  · replace E := E.trans (if_pos h13)
    refine X_aload_n Γ d_M_append_19 rfl 0 rfl rfl ?_
    refine X_iload_n Γ d_M_append_20 rfl 1 rfl rfl ?_
    refine X_callVi (rest := []) Γ d_M_append_21 (m_M_syncSize l D cI cZ cB cM a hJ G x1 hb) (by decide) rfl rfl rfl w599 w601 s_M_syncSize w9 w602 e_M_syncSize ⟨by decide, by decide⟩ ⟨rfl, rfl⟩ rfl rfl (Nat.le_of_ble_eq_true rfl) rfl ?_
    refine X_aload_n Γ d_M_append_24 rfl 0 rfl rfl ?_
    refine X_get Γ d_M_append_25 (by decide) rfl rfl in_M 2 (by decide) w482 rfl rfl rfl ?_
    refine X_icmp_ge (tgt := 34) Γ d_M_append_28 (by decide) rfl (fun h28 => ?_) (fun h28 => ?_)
    · replace E := E.trans (if_pos h28)
      refine X_aload_n Γ d_M_append_34 rfl 0 rfl rfl ?_
      refine X_dup Γ d_M_append_35 rfl rfl ?_
      refine X_get Γ d_M_append_36 (by decide) rfl rfl in_M 7 (by decide) w487 rfl rfl rfl ?_
      refine X_iconst (v := 1) Γ d_M_append_39 (by decide) rfl ?_
      refine X_iadd Γ d_M_append_40 rfl ?_
      refine X_put (ty := .int) Γ d_M_append_41 (by decide) rfl rfl in_M 7 (by decide) w487 rfl ty_M ty_M_ok nm_M rfl (by decide +kernel) rfl rfl (Nat.le_of_ble_eq_true rfl) kp_M_7 rfl ?_
      refine X_aload_n Γ d_M_append_44 rfl 0 rfl rfl ?_
      refine X_get Γ d_M_append_45 (by decide) rfl rfl in_M 8 (by decide) w488 rfl rfl rfl ?_
      refine X_aload_n Γ d_M_append_48 rfl 0 rfl rfl ?_
      refine X_get (v := .int ((G 0 7) + 1)) Γ d_M_append_49 (by decide) rfl rfl in_M 7 (by decide) w487 rfl rfl rfl ?_
      refine X_aload_n Γ d_M_append_52 rfl 0 rfl rfl ?_
      refine X_get Γ d_M_append_53 (by decide) rfl rfl in_M 13 (by decide) w493 rfl rfl rfl ?_
      refine X_iload_n Γ d_M_append_56 rfl 1 rfl rfl ?_
      refine X_iald (v := (G 7 x1.toNatClampNeg)) Γ d_M_append_57 (by decide) rfl 0 rfl hb rfl rfl ?_
      refine X_iast (kx := ((G 0 7) + 1).toNatClampNeg) Γ d_M_append_58 (by decide) rfl 0 rfl (ap_in hR) (fun _ => rfl) rfl rfl ?_
      refine X_aload_n Γ d_M_append_59 rfl 0 rfl rfl ?_
      refine X_get Γ d_M_append_60 (by decide) rfl rfl in_M 9 (by decide) w489 rfl rfl rfl ?_
      refine X_aload_n Γ d_M_append_63 rfl 0 rfl rfl ?_
      refine X_get (v := .int ((G 0 7) + 1)) Γ d_M_append_64 (by decide) rfl rfl in_M 7 (by decide) w487 rfl rfl rfl ?_
      refine X_aload_n Γ d_M_append_67 rfl 0 rfl rfl ?_
      refine X_get Γ d_M_append_68 (by decide) rfl rfl in_M 9 (by decide) w489 rfl rfl rfl ?_
      refine X_aload_n Γ d_M_append_71 rfl 0 rfl rfl ?_
      refine X_get Γ d_M_append_72 (by decide) rfl rfl in_M 13 (by decide) w493 rfl rfl rfl ?_
      refine X_iload_n Γ d_M_append_75 rfl 1 rfl rfl ?_
      refine X_iald (v := (G 7 x1.toNatClampNeg)) Γ d_M_append_76 (by decide) rfl 0 rfl hb rfl rfl ?_
      refine X_iald (v := (G 3 (G 7 x1.toNatClampNeg).toNatClampNeg)) Γ d_M_append_77 (by decide) rfl 0 rfl (hT.1 _ (vp_lt hb)) rfl rfl ?_
      refine X_iconst (v := 1) Γ d_M_append_78 (by decide) rfl ?_
      refine X_iadd Γ d_M_append_79 rfl ?_
      refine X_iast (kx := ((G 0 7) + 1).toNatClampNeg) Γ d_M_append_80 (by decide) rfl 0 rfl (ap_in hR) (fun _ => rfl) rfl rfl ?_
      refine X_aload_n Γ d_M_append_81 rfl 0 rfl rfl ?_
      refine X_get Γ d_M_append_82 (by decide) rfl rfl in_M 10 (by decide) w490 rfl rfl rfl ?_
      refine X_aload_n Γ d_M_append_85 rfl 0 rfl rfl ?_
      refine X_get (v := .int ((G 0 7) + 1)) Γ d_M_append_86 (by decide) rfl rfl in_M 7 (by decide) w487 rfl rfl rfl ?_
      refine X_aload_n Γ d_M_append_89 rfl 0 rfl rfl ?_
      refine X_get Γ d_M_append_90 (by decide) rfl rfl in_M 16 (by decide) w496 rfl rfl rfl ?_
      refine X_iload_n Γ d_M_append_93 rfl 1 rfl rfl ?_
      refine X_iald (v := (G 10 x1.toNatClampNeg)) Γ d_M_append_94 (by decide) rfl 0 rfl hb rfl rfl ?_
      refine X_iast (kx := ((G 0 7) + 1).toNatClampNeg) Γ d_M_append_95 (by decide) rfl 0 rfl (ap_in hR) (fun _ => rfl) rfl rfl ?_
      refine X_aload_n Γ d_M_append_96 rfl 0 rfl rfl ?_
      refine X_get Γ d_M_append_97 (by decide) rfl rfl in_M 11 (by decide) w491 rfl rfl rfl ?_
      refine X_aload_n Γ d_M_append_100 rfl 0 rfl rfl ?_
      refine X_get (v := .int ((G 0 7) + 1)) Γ d_M_append_101 (by decide) rfl rfl in_M 7 (by decide) w487 rfl rfl rfl ?_
      refine X_iload_n Γ d_M_append_104 rfl 2 rfl rfl ?_
      refine X_iast (kx := ((G 0 7) + 1).toNatClampNeg) Γ d_M_append_105 (by decide) rfl 0 rfl (ap_in hR) (fun _ => rfl) rfl rfl ?_
      refine X_aload_n Γ d_M_append_106 rfl 0 rfl rfl ?_
      refine X_get Γ d_M_append_107 (by decide) rfl rfl in_M 12 (by decide) w492 rfl rfl rfl ?_
      refine X_aload_n Γ d_M_append_110 rfl 0 rfl rfl ?_
      refine X_get (v := .int ((G 0 7) + 1)) Γ d_M_append_111 (by decide) rfl rfl in_M 7 (by decide) w487 rfl rfl rfl ?_
      refine X_iload_n Γ d_M_append_114 rfl 3 rfl rfl ?_
      refine X_zast (kx := ((G 0 7) + 1).toNatClampNeg) Γ d_M_append_115 (by decide) rfl 1 rfl (ap_in hR) hz (fun _ => rfl) rfl rfl ?_
      refine X_aload_n Γ d_M_append_116 rfl 0 rfl rfl ?_
      refine X_get Γ d_M_append_117 (by decide) rfl rfl in_M 13 (by decide) w493 rfl rfl rfl ?_
      refine X_iload_n Γ d_M_append_120 rfl 1 rfl rfl ?_
      refine X_aload_n Γ d_M_append_121 rfl 0 rfl rfl ?_
      refine X_get (v := .int ((G 0 7) + 1)) Γ d_M_append_122 (by decide) rfl rfl in_M 7 (by decide) w487 rfl rfl rfl ?_
      refine X_iast (kx := x1.toNatClampNeg) Γ d_M_append_125 (by decide) rfl 0 rfl hb (fun _ => rfl) rfl rfl ?_
      refine jn_open E (fun j126 ej126 E => ?_)
      have J126 : ∀ (Gv126 : Nat → Nat → Int32), (okT Gv126 ∧ Gv126 0 7 = G 0 7 + 1) → f_M_append x1 x2 x3 G = j126 Gv126 → X Y s m D xcl 27 a 4 (kg (kM cI cZ a) Gv126) 126 [(0, .ref (a 0)), (1, .int x1), (2, .int x2), (3, .int x3)] [] := by
        intro Gv126 hI126 E
        rw [ej126] at E
        refine X_aload_n Γ d_M_append_126 rfl 0 rfl rfl ?_
        refine X_iload_n Γ d_M_append_127 rfl 1 rfl rfl ?_
        refine X_callVv (rest := []) Γ d_M_append_128 (m_M_rise l D cI cZ cB cM a hJ Gv126 x1 hb hI126.1) (by decide) rfl rfl rfl w603 w605 s_M_rise w9 w606 e_M_rise ⟨by decide, by decide⟩ ⟨rfl, rfl⟩ rfl rfl (Nat.le_of_ble_eq_true rfl) rfl ?_
        refine X_aload_n Γ d_M_append_131 rfl 0 rfl rfl ?_
        refine X_get Γ d_M_append_132 (by decide) rfl rfl in_M 9 (by decide) w489 rfl rfl rfl ?_
        refine X_aload_n Γ d_M_append_135 rfl 0 rfl rfl ?_
        refine X_get Γ d_M_append_136 (by decide) rfl rfl in_M 7 (by decide) w487 rfl rfl rfl ?_
        refine X_iald (v := (((f_M_rise x1 Gv126)) 3 (((f_M_rise x1 Gv126)) 0 7).toNatClampNeg)) Γ d_M_append_139 (by decide) rfl 0 rfl (by rw [rise_ne (by decide), hI126.2]; exact ap_in hR) rfl rfl ?_
        refine X_iconst (v := 1) Γ d_M_append_140 (by decide) rfl ?_
        refine X_isub Γ d_M_append_141 rfl ?_
        exact X_ireti Γ d_M_append_142 (g_r E) (g_eq E)
      refine X_loc [0, 1, 2, 3] rfl ?_
      exact J126 (g2 (g2 (g2 (g2 (g2 (g2 (g2 G 0 7 ((G 0 7) + 1)) 2 ((G 0 7) + 1).toNatClampNeg (G 7 x1.toNatClampNeg)) 3 ((G 0 7) + 1).toNatClampNeg ((G 3 (G 7 x1.toNatClampNeg).toNatClampNeg) + 1)) 4 ((G 0 7) + 1).toNatClampNeg (G 10 x1.toNatClampNeg)) 5 ((G 0 7) + 1).toNatClampNeg x2) 6 ((G 0 7) + 1).toNatClampNeg x3) 7 x1.toNatClampNeg ((G 0 7) + 1)) (⟨ap_okT hT hR (hl _ (vp_lt hb)) (hT.1 _ (vp_lt hb)), rfl⟩) E
    · replace E := E.trans (if_neg h28)
      refine X_bipush (v := (-3)) Γ d_M_append_31 (by decide) rfl ?_
      exact X_ireti Γ d_M_append_33 (g_r E) (g_eq E)
  · replace E := E.trans (if_neg h13)
    refine X_bipush (v := (-2)) Γ d_M_append_16 (by decide) rfl ?_
    exact X_ireti Γ d_M_append_18 (g_r E) (g_eq E)
def f_M_produce (x1 : Int32) (x2 : Int32) (G : Nat → Nat → Int32) : Int32 × (Nat → Nat → Int32) := (if ((f_M_leads x1 G)) = 0 then ((-1), G) else (((f_M_append x1 x2 0 G).1), ((f_M_append x1 x2 0 G).2)))
theorem e_M_produce : y_M_produce.cls ≠ "java/lang/invoke/MethodHandle" ∧ y_M_produce.cls ≠ "java/lang/invoke/VarHandle" ∧ (parseMethodDescriptor y_M_produce.desc).map (fun d => d.parameters.length) = some 2 := by decide +kernel
set_option maxHeartbeats 4000000 in
set_option maxRecDepth 100000 in
theorem m_M_produce (l : Launch) (D : va_G) (cI cZ cB cM : ClassId) (a : Nat → Nat) (hJ : xJ 27 a) (G : Nat → Nat → Int32) (x1 : Int32) (x2 : Int32) (hT : okT G) (hR : 0 ≤ (G 0 7).toInt ∧ (G 0 7).toInt < 519) (hl : ∀ j : Nat, j < 4 → (G 7 j).toInt ≤ (G 0 7).toInt) : Met l y_M_produce (Cond.code y_M_produce prog_8_method_10_code 3 (Option.some FieldType.int) :: wsBig) { frames := 2, cells := 0, slots := 0, locals := 47 } (xP D xcl (xty cI cZ cB cM) 27 a (kg (kM cI cZ a) G) [.ref (a 0), .int x1, .int x2]) (xQi D xcl 27 a ((f_M_produce x1 x2 G).1) (kg (kM cI cZ a) ((f_M_produce x1 x2 G).2))) 0 0 (xA 27 a) := by
  refine X_met (by decide) rfl (Nat.le_of_ble_eq_true rfl) hJ (fun Y s m args Γ => ?_)
  show X Y s m D xcl 27 a 3 (kg (kM cI cZ a) G) 0 [(0, .ref (a 0)), (1, .int x1), (2, .int x2)] []
  have E := f_M_produce.eq_1 x1 x2 G
  refine X_aload_n Γ d_M_produce_0 rfl 0 rfl rfl ?_
  refine X_iload_n Γ d_M_produce_1 rfl 1 rfl rfl ?_
  refine X_callVi (rest := []) Γ d_M_produce_2 (m_M_leads l D cI cZ cB cM a hJ G x1) (by decide) rfl rfl rfl w588 w590 s_M_leads w9 w591 e_M_leads ⟨by decide, by decide⟩ ⟨rfl, rfl⟩ rfl rfl (Nat.le_of_ble_eq_true rfl) rfl ?_
  refine X_if_eq (tgt := 18) Γ d_M_produce_5 (by decide) rfl (fun h5 => ?_) (fun h5 => ?_)
  · replace E := E.trans (if_pos h5)
    refine X_iconst (v := (-1)) Γ d_M_produce_18 (by decide) rfl ?_
    exact X_ireti Γ d_M_produce_19 (g_r E) (g_eq E)
  · replace E := E.trans (if_neg h5)
    refine X_aload_n Γ d_M_produce_8 rfl 0 rfl rfl ?_
    refine X_iload_n Γ d_M_produce_9 rfl 1 rfl rfl ?_
    refine X_iload_n Γ d_M_produce_10 rfl 2 rfl rfl ?_
    refine X_iconst (v := 0) Γ d_M_produce_11 (by decide) rfl ?_
    refine X_callVi (rest := []) Γ d_M_produce_12 (m_M_append l D cI cZ cB cM a hJ G x1 x2 0 (isLM_in h5) hT (by decide) hR hl) (by decide) rfl rfl rfl w595 w597 s_M_append w9 w598 e_M_append ⟨by decide, by decide⟩ ⟨rfl, rfl⟩ rfl rfl (Nat.le_of_ble_eq_true rfl) rfl ?_
    refine X_goto (pc' := 19) Γ d_M_produce_15 (by decide) ?_
    exact X_ireti Γ d_M_produce_19 (g_r E) (g_eq E)
def f_M_commit (x1 : Int32) (x2 : Int32) (G : Nat → Nat → Int32) : Int32 × (Nat → Nat → Int32) := (if ((f_M_leads x1 G)) = 0 then ((-1), G) else (if x2 < 0 then ((-1), G) else (if x2 ≤ (G 8 x1.toNatClampNeg) then (((f_M_append x1 x2 1 G).1), ((f_M_append x1 x2 1 G).2)) else ((-1), G))))
theorem e_M_commit : y_M_commit.cls ≠ "java/lang/invoke/MethodHandle" ∧ y_M_commit.cls ≠ "java/lang/invoke/VarHandle" ∧ (parseMethodDescriptor y_M_commit.desc).map (fun d => d.parameters.length) = some 2 := by decide +kernel
set_option maxHeartbeats 4000000 in
set_option maxRecDepth 100000 in
theorem m_M_commit (l : Launch) (D : va_G) (cI cZ cB cM : ClassId) (a : Nat → Nat) (hJ : xJ 27 a) (G : Nat → Nat → Int32) (x1 : Int32) (x2 : Int32) (hT : okT G) (hR : 0 ≤ (G 0 7).toInt ∧ (G 0 7).toInt < 519) (hl : ∀ j : Nat, j < 4 → (G 7 j).toInt ≤ (G 0 7).toInt) : Met l y_M_commit (Cond.code y_M_commit prog_8_method_11_code 3 (Option.some FieldType.int) :: wsBig) { frames := 2, cells := 0, slots := 0, locals := 47 } (xP D xcl (xty cI cZ cB cM) 27 a (kg (kM cI cZ a) G) [.ref (a 0), .int x1, .int x2]) (xQi D xcl 27 a ((f_M_commit x1 x2 G).1) (kg (kM cI cZ a) ((f_M_commit x1 x2 G).2))) 0 0 (xA 27 a) := by
  refine X_met (by decide) rfl (Nat.le_of_ble_eq_true rfl) hJ (fun Y s m args Γ => ?_)
  show X Y s m D xcl 27 a 3 (kg (kM cI cZ a) G) 0 [(0, .ref (a 0)), (1, .int x1), (2, .int x2)] []
  have E := f_M_commit.eq_1 x1 x2 G
  refine X_aload_n Γ d_M_commit_0 rfl 0 rfl rfl ?_
  refine X_iload_n Γ d_M_commit_1 rfl 1 rfl rfl ?_
  refine X_callVi (rest := []) Γ d_M_commit_2 (m_M_leads l D cI cZ cB cM a hJ G x1) (by decide) rfl rfl rfl w588 w590 s_M_leads w9 w591 e_M_leads ⟨by decide, by decide⟩ ⟨rfl, rfl⟩ rfl rfl (Nat.le_of_ble_eq_true rfl) rfl ?_
  refine X_if_ne (tgt := 10) Γ d_M_commit_5 (by decide) rfl (fun h5 => ?_) (fun h5 => ?_)
  · replace E := E.trans (if_neg h5)
    refine X_iload_n Γ d_M_commit_10 rfl 2 rfl rfl ?_
    refine X_if_lt (tgt := 24) Γ d_M_commit_11 (by decide) rfl (fun h11 => ?_) (fun h11 => ?_)
    · replace E := E.trans (if_pos h11)
      refine X_iconst (v := (-1)) Γ d_M_commit_24 (by decide) rfl ?_
      refine X_goto (pc' := 35) Γ d_M_commit_25 (by decide) ?_
      exact X_ireti Γ d_M_commit_35 (g_r E) (g_eq E)
    · replace E := E.trans (if_neg h11)
      refine X_iload_n Γ d_M_commit_14 rfl 2 rfl rfl ?_
      refine X_aload_n Γ d_M_commit_15 rfl 0 rfl rfl ?_
      refine X_get Γ d_M_commit_16 (by decide) rfl rfl in_M 14 (by decide) w494 rfl rfl rfl ?_
      refine X_iload_n Γ d_M_commit_19 rfl 1 rfl rfl ?_
      refine X_iald (v := (G 8 x1.toNatClampNeg)) Γ d_M_commit_20 (by decide) rfl 0 rfl (isLM_in h5) rfl rfl ?_
      refine X_icmp_le (tgt := 28) Γ d_M_commit_21 (by decide) rfl (fun h21 => ?_) (fun h21 => ?_)
      · replace E := E.trans (if_pos h21)
        refine X_aload_n Γ d_M_commit_28 rfl 0 rfl rfl ?_
        refine X_iload_n Γ d_M_commit_29 rfl 1 rfl rfl ?_
        refine X_iload_n Γ d_M_commit_30 rfl 2 rfl rfl ?_
        refine X_iconst (v := 1) Γ d_M_commit_31 (by decide) rfl ?_
        refine X_callVi (rest := []) Γ d_M_commit_32 (m_M_append l D cI cZ cB cM a hJ G x1 x2 1 (isLM_in h5) hT (by decide) hR hl) (by decide) rfl rfl rfl w595 w597 s_M_append w9 w598 e_M_append ⟨by decide, by decide⟩ ⟨rfl, rfl⟩ rfl rfl (Nat.le_of_ble_eq_true rfl) rfl ?_
        exact X_ireti Γ d_M_commit_35 (g_r E) (g_eq E)
      · replace E := E.trans (if_neg h21)
        refine X_iconst (v := (-1)) Γ d_M_commit_24 (by decide) rfl ?_
        refine X_goto (pc' := 35) Γ d_M_commit_25 (by decide) ?_
        exact X_ireti Γ d_M_commit_35 (g_r E) (g_eq E)
  · replace E := E.trans (if_pos h5)
    refine X_iconst (v := (-1)) Γ d_M_commit_8 (by decide) rfl ?_
    exact X_ireti Γ d_M_commit_9 (g_r E) (g_eq E)
def f_M_readable (x1 : Int32) (x2 : Int32) (G : Nat → Nat → Int32) : Int32 := (if ((f_M_leads x1 G)) = 0 then 0 else (if ((f_M_recordAt x1 x2 G)) = 0 then 0 else (if x2 < (G 8 x1.toNatClampNeg) then (if (G 6 ((f_M_recordAt x1 x2 G)).toNatClampNeg) = 0 then 1 else 2) else 0)))
theorem e_M_readable : y_M_readable.cls ≠ "java/lang/invoke/MethodHandle" ∧ y_M_readable.cls ≠ "java/lang/invoke/VarHandle" ∧ (parseMethodDescriptor y_M_readable.desc).map (fun d => d.parameters.length) = some 2 := by decide +kernel
set_option maxHeartbeats 4000000 in
set_option maxRecDepth 100000 in
theorem m_M_readable (l : Launch) (D : va_G) (cI cZ cB cM : ClassId) (a : Nat → Nat) (hJ : xJ 27 a) (G : Nat → Nat → Int32) (x1 : Int32) (x2 : Int32) (hT : okT G) : Met l y_M_readable (Cond.code y_M_readable prog_8_method_13_code 4 (Option.some FieldType.int) :: wsBig) { frames := 2, cells := 0, slots := 0, locals := 45 } (xP D xcl (xty cI cZ cB cM) 27 a (kg (kM cI cZ a) G) [.ref (a 0), .int x1, .int x2]) (xQi D xcl 27 a (f_M_readable x1 x2 G) (kg (kM cI cZ a) G)) 0 0 (xA 27 a) := by
  refine X_met (by decide) rfl (Nat.le_of_ble_eq_true rfl) hJ (fun Y s m args Γ => ?_)
  show X Y s m D xcl 27 a 4 (kg (kM cI cZ a) G) 0 [(0, .ref (a 0)), (1, .int x1), (2, .int x2)] []
  have E := f_M_readable.eq_1 x1 x2 G
  refine X_aload_n Γ d_M_readable_0 rfl 0 rfl rfl ?_
  refine X_iload_n Γ d_M_readable_1 rfl 1 rfl rfl ?_
  refine X_iload_n Γ d_M_readable_2 rfl 2 rfl rfl ?_
  refine X_callVi (rest := []) Γ d_M_readable_3 (m_M_recordAt l D cI cZ cB cM a hJ G x1 x2 hT) (by decide) rfl rfl rfl w615 w617 s_M_recordAt w9 w618 e_M_recordAt ⟨by decide, by decide⟩ ⟨rfl, rfl⟩ rfl rfl (Nat.le_of_ble_eq_true rfl) rfl ?_
  refine X_istore_n Γ d_M_readable_6 rfl (by decide) rfl rfl ?_
  refine X_aload_n Γ d_M_readable_7 rfl 1 rfl rfl ?_
  refine X_iload_n Γ d_M_readable_8 rfl 2 rfl rfl ?_
  refine X_callVi (rest := []) Γ d_M_readable_9 (m_M_leads l D cI cZ cB cM a hJ G x1) (by decide) rfl rfl rfl w588 w590 s_M_leads w9 w591 e_M_leads ⟨by decide, by decide⟩ ⟨rfl, rfl⟩ rfl rfl (Nat.le_of_ble_eq_true rfl) rfl ?_
  refine X_if_eq (tgt := 29) Γ d_M_readable_12 (by decide) rfl (fun h12 => ?_) (fun h12 => ?_)
  · replace E := E.trans (if_pos h12)
    refine X_iconst (v := 0) Γ d_M_readable_29 (by decide) rfl ?_
    exact X_ireti Γ d_M_readable_30 E.symm rfl
  · replace E := E.trans (if_neg h12)
    refine X_iload_n Γ d_M_readable_15 rfl 0 rfl rfl ?_
    refine X_if_eq (tgt := 29) Γ d_M_readable_16 (by decide) rfl (fun h16 => ?_) (fun h16 => ?_)
    · replace E := E.trans (if_pos h16)
      refine X_iconst (v := 0) Γ d_M_readable_29 (by decide) rfl ?_
      exact X_ireti Γ d_M_readable_30 E.symm rfl
    · replace E := E.trans (if_neg h16)
      refine X_iload_n Γ d_M_readable_19 rfl 3 rfl rfl ?_
      refine X_aload_n Γ d_M_readable_20 rfl 1 rfl rfl ?_
      refine X_get Γ d_M_readable_21 (by decide) rfl rfl in_M 14 (by decide) w494 rfl rfl rfl ?_
      refine X_iload_n Γ d_M_readable_24 rfl 2 rfl rfl ?_
      refine X_iald (v := (G 8 x1.toNatClampNeg)) Γ d_M_readable_25 (by decide) rfl 0 rfl (isLM_in h12) rfl rfl ?_
      refine X_icmp_lt (tgt := 31) Γ d_M_readable_26 (by decide) rfl (fun h26 => ?_) (fun h26 => ?_)
      · replace E := E.trans (if_pos h26)
        refine X_aload_n Γ d_M_readable_31 rfl 1 rfl rfl ?_
        refine X_get Γ d_M_readable_32 (by decide) rfl rfl in_M 12 (by decide) w492 rfl rfl rfl ?_
        refine X_iload_n Γ d_M_readable_35 rfl 0 rfl rfl ?_
        refine X_zald (v := (G 6 ((f_M_recordAt x1 x2 G)).toNatClampNeg)) Γ d_M_readable_36 (by decide) rfl 1 rfl (ra_in hT) rfl rfl ?_
        refine X_if_eq (tgt := 44) Γ d_M_readable_37 (by decide) rfl (fun h37 => ?_) (fun h37 => ?_)
        · replace E := E.trans (if_pos h37)
          refine X_iconst (v := 1) Γ d_M_readable_44 (by decide) rfl ?_
          exact X_ireti Γ d_M_readable_45 E.symm rfl
        · replace E := E.trans (if_neg h37)
          refine X_iconst (v := 2) Γ d_M_readable_40 (by decide) rfl ?_
          refine X_goto (pc' := 45) Γ d_M_readable_41 (by decide) ?_
          exact X_ireti Γ d_M_readable_45 E.symm rfl
      · replace E := E.trans (if_neg h26)
        refine X_iconst (v := 0) Γ d_M_readable_29 (by decide) rfl ?_
        exact X_ireti Γ d_M_readable_30 E.symm rfl
def f_M_committed_22 (x1 : Int32) (G : Nat → Nat → Int32) : Nat → Int32 → Int32
  | 0, v2_22 => 0
  | k22 + 1, v2_22 => (if v2_22 ≤ 0 then (if v2_22 ≤ 0 then (-1) else (G 5 v2_22.toNatClampNeg)) else (if (G 6 v2_22.toNatClampNeg) = 0 then (f_M_committed_22 x1 G k22 (G 2 v2_22.toNatClampNeg)) else (if v2_22 ≤ 0 then (-1) else (G 5 v2_22.toNatClampNeg))))
def f_M_committed (x1 : Int32) (G : Nat → Nat → Int32) : Int32 := (if ((f_M_leads x1 G)) = 0 then (-1) else (f_M_committed_22 x1 G 521 ((f_M_upTo x1 (G 8 x1.toNatClampNeg) G))))
theorem e_M_committed : y_M_committed.cls ≠ "java/lang/invoke/MethodHandle" ∧ y_M_committed.cls ≠ "java/lang/invoke/VarHandle" ∧ (parseMethodDescriptor y_M_committed.desc).map (fun d => d.parameters.length) = some 1 := by decide +kernel
set_option maxHeartbeats 4000000 in
set_option maxRecDepth 100000 in
theorem m_M_committed (l : Launch) (D : va_G) (cI cZ cB cM : ClassId) (a : Nat → Nat) (hJ : xJ 27 a) (G : Nat → Nat → Int32) (x1 : Int32) (hT : okT G) (hH : ∀ j : Nat, j < 4 → 0 ≤ (G 8 j).toInt) : Met l y_M_committed (Cond.code y_M_committed prog_8_method_14_code 3 (Option.some FieldType.int) :: wsBig) { frames := 2, cells := 0, slots := 0, locals := 41 } (xP D xcl (xty cI cZ cB cM) 27 a (kg (kM cI cZ a) G) [.ref (a 0), .int x1]) (xQi D xcl 27 a (f_M_committed x1 G) (kg (kM cI cZ a) G)) 0 0 (xA 27 a) := by
  refine X_met (by decide) rfl (Nat.le_of_ble_eq_true rfl) hJ (fun Y s m args Γ => ?_)
  show X Y s m D xcl 27 a 3 (kg (kM cI cZ a) G) 0 [(0, .ref (a 0)), (1, .int x1)] []
  have E := f_M_committed.eq_1 x1 G
  refine X_aload_n Γ d_M_committed_0 rfl 0 rfl rfl ?_
  refine X_iload_n Γ d_M_committed_1 rfl 1 rfl rfl ?_
  refine X_callVi (rest := []) Γ d_M_committed_2 (m_M_leads l D cI cZ cB cM a hJ G x1) (by decide) rfl rfl rfl w588 w590 s_M_leads w9 w591 e_M_leads ⟨by decide, by decide⟩ ⟨rfl, rfl⟩ rfl rfl (Nat.le_of_ble_eq_true rfl) rfl ?_
  refine X_if_ne (tgt := 10) Γ d_M_committed_5 (by decide) rfl (fun h5 => ?_) (fun h5 => ?_)
  · replace E := E.trans (if_neg h5)
    refine X_aload_n Γ d_M_committed_10 rfl 0 rfl rfl ?_
    refine X_iload_n Γ d_M_committed_11 rfl 1 rfl rfl ?_
    refine X_aload_n Γ d_M_committed_12 rfl 0 rfl rfl ?_
    refine X_get Γ d_M_committed_13 (by decide) rfl rfl in_M 14 (by decide) w494 rfl rfl rfl ?_
    refine X_iload_n Γ d_M_committed_16 rfl 1 rfl rfl ?_
    refine X_iald (v := (G 8 x1.toNatClampNeg)) Γ d_M_committed_17 (by decide) rfl 0 rfl (isLM_in h5) rfl rfl ?_
    refine X_callVi (rest := []) Γ d_M_committed_18 (m_M_upTo l D cI cZ cB cM a hJ G x1 (G 8 x1.toNatClampNeg) (isLM_in h5) hT (hH _ (vp_lt (isLM_in h5)))) (by decide) rfl rfl rfl w619 w621 s_M_upTo w9 w622 e_M_upTo ⟨by decide, by decide⟩ ⟨rfl, rfl⟩ rfl rfl (Nat.le_of_ble_eq_true rfl) rfl ?_
    refine X_istore_n Γ d_M_committed_21 rfl (by decide) rfl rfl ?_
    have J22 : ∀ (k22 : Nat) (v2_22 : Int32), (vp_in v2_22 520 ∧ v2_22.toInt < k22) → f_M_committed x1 G = f_M_committed_22 x1 G k22 v2_22 → X Y s m D xcl 27 a 3 (kg (kM cI cZ a) G) 22 [(0, .ref (a 0)), (1, .int x1), (2, .int v2_22)] [] := by
      intro k22
      induction k22 with
      | zero => exact fun v2_22 hI22 _ => absurd hI22 (fun h => by have := vp_in_iff.mp h.1; omega)
      | succ k22 ih22 =>
        intro v2_22 hI22 E
        rw [f_M_committed_22] at E
        refine X_iload_n Γ d_M_committed_22 rfl 2 rfl rfl ?_
        refine X_if_le (tgt := 45) Γ d_M_committed_23 (by decide) rfl (fun h23 => ?_) (fun h23 => ?_)
        · replace E := E.trans (if_pos h23)
          refine X_iload_n Γ d_M_committed_45 rfl 2 rfl rfl ?_
          refine X_if_le (tgt := 58) Γ d_M_committed_46 (by decide) rfl (fun h46 => ?_) (fun h46 => ?_)
          · replace E := E.trans (if_pos h46)
            refine X_iconst (v := (-1)) Γ d_M_committed_58 (by decide) rfl ?_
            exact X_ireti Γ d_M_committed_59 E.symm rfl
          · replace E := E.trans (if_neg h46)
            refine X_aload_n Γ d_M_committed_49 rfl 0 rfl rfl ?_
            refine X_get Γ d_M_committed_50 (by decide) rfl rfl in_M 11 (by decide) w491 rfl rfl rfl ?_
            refine X_iload_n Γ d_M_committed_53 rfl 2 rfl rfl ?_
            refine X_iald (v := (G 5 v2_22.toNatClampNeg)) Γ d_M_committed_54 (by decide) rfl 0 rfl hI22.1 rfl rfl ?_
            refine X_goto (pc' := 59) Γ d_M_committed_55 (by decide) ?_
            exact X_ireti Γ d_M_committed_59 E.symm rfl
        · replace E := E.trans (if_neg h23)
          refine X_aload_n Γ d_M_committed_26 rfl 0 rfl rfl ?_
          refine X_get Γ d_M_committed_27 (by decide) rfl rfl in_M 12 (by decide) w492 rfl rfl rfl ?_
          refine X_iload_n Γ d_M_committed_30 rfl 2 rfl rfl ?_
          refine X_zald (v := (G 6 v2_22.toNatClampNeg)) Γ d_M_committed_31 (by decide) rfl 1 rfl hI22.1 rfl rfl ?_
          refine X_if_ne (tgt := 45) Γ d_M_committed_32 (by decide) rfl (fun h32 => ?_) (fun h32 => ?_)
          · replace E := E.trans (if_neg h32)
            refine X_iload_n Γ d_M_committed_45 rfl 2 rfl rfl ?_
            refine X_if_le (tgt := 58) Γ d_M_committed_46 (by decide) rfl (fun h46 => ?_) (fun h46 => ?_)
            · replace E := E.trans (if_pos h46)
              refine X_iconst (v := (-1)) Γ d_M_committed_58 (by decide) rfl ?_
              exact X_ireti Γ d_M_committed_59 E.symm rfl
            · replace E := E.trans (if_neg h46)
              refine X_aload_n Γ d_M_committed_49 rfl 0 rfl rfl ?_
              refine X_get Γ d_M_committed_50 (by decide) rfl rfl in_M 11 (by decide) w491 rfl rfl rfl ?_
              refine X_iload_n Γ d_M_committed_53 rfl 2 rfl rfl ?_
              refine X_iald (v := (G 5 v2_22.toNatClampNeg)) Γ d_M_committed_54 (by decide) rfl 0 rfl hI22.1 rfl rfl ?_
              refine X_goto (pc' := 59) Γ d_M_committed_55 (by decide) ?_
              exact X_ireti Γ d_M_committed_59 E.symm rfl
          · replace E := E.trans (if_pos h32)
            refine X_aload_n Γ d_M_committed_35 rfl 0 rfl rfl ?_
            refine X_get Γ d_M_committed_36 (by decide) rfl rfl in_M 8 (by decide) w488 rfl rfl rfl ?_
            refine X_iload_n Γ d_M_committed_39 rfl 2 rfl rfl ?_
            refine X_iald (v := (G 2 v2_22.toNatClampNeg)) Γ d_M_committed_40 (by decide) rfl 0 rfl hI22.1 rfl rfl ?_
            refine X_istore_n Γ d_M_committed_41 rfl (by decide) rfl rfl ?_
            refine X_goto (pc' := 22) Γ d_M_committed_42 (by decide) ?_
            refine X_loc [1, 2, 0] rfl ?_
            exact ih22 (G 2 v2_22.toNatClampNeg) (ue_step hT hI22 h23) E
    refine X_loc [1, 2, 0] rfl ?_
    exact J22 521 ((f_M_upTo x1 (G 8 x1.toNatClampNeg) G)) (in521 (ut_in (isLM_in h5) hT (hH _ (vp_lt (isLM_in h5))))) E
  · replace E := E.trans (if_pos h5)
    refine X_iconst (v := (-1)) Γ d_M_committed_8 (by decide) rfl ?_
    exact X_ireti Γ d_M_committed_9 E.symm rfl
