def f_G_word (n : Nat) (x1 : Int32) (G : Nat → Nat → Int32) : Int32 := (if x1 = 0 then (G n 2) else (if x1 = 1 then (G n 3) else (if x1 = 2 then (G n 4) else (if x1 = 3 then (G n 5) else (if x1 = 4 then (G n 6) else (if x1 = 5 then (G n 7) else (if x1 = 6 then (G n 8) else (-1))))))))
theorem e_G_word : y_G_word.cls ≠ "java/lang/invoke/MethodHandle" ∧ y_G_word.cls ≠ "java/lang/invoke/VarHandle" ∧ (parseMethodDescriptor y_G_word.desc).map (fun d => d.parameters.length) = some 1 := by decide +kernel
set_option maxHeartbeats 4000000 in
set_option maxRecDepth 100000 in
theorem m_G_word (l : Launch) (D : va_G) (cI cZ cB cM : ClassId) (a : Nat → Nat) (hJ : xJ 56 a) (P : Nat → Nat) (G : Nat → Nat → Int32) (n : Nat) (n_1 : 29 ≤ n) (n_2 : n < 38) (x1 : Int32) : Met l y_G_word (Cond.code y_G_word prog_6_method_2_code 2 (Option.some FieldType.int) :: wsBig) { frames := 0, cells := 0, slots := 0, locals := 0 } (xP D xcl (xty cI cZ cB cM) 56 a (kg (kC cI cB cM a P) G) [.ref (a n), .int x1]) (xQi D xcl 56 a (f_G_word n x1 G) (kg (kC cI cB cM a P) G)) 0 0 (xA 56 a) := by
  refine X_met (by decide) rfl (Nat.le_of_ble_eq_true rfl) hJ (fun Y s m args Γ => ?_)
  show X Y s m D xcl 56 a 2 (kg (kC cI cB cM a P) G) 0 [(0, .ref (a n)), (1, .int x1)] []
  have E := f_G_word.eq_1 n x1 G
  refine X_iload_n Γ d_G_word_0 rfl 1 rfl rfl ?_
  by_cases h1_0 : x1 = 0
  · replace E := E.trans (if_pos h1_0)
    refine X_tableIn (pc' := 44) (off := 43) Γ d_G_word_1 h1_0 (by decide) (by decide) (by decide) (by decide) ?_
    refine X_aload_n Γ d_G_word_44 rfl 0 rfl rfl ?_
    refine X_get Γ d_G_word_45 (Nat.lt_of_lt_of_le n_2 (by decide : 38 ≤ 56)) (kC_G n_1 n_2) rfl in_G 2 (by decide) w65 rfl rfl rfl ?_
    exact X_ireti Γ d_G_word_48 E.symm rfl
  replace E := E.trans (if_neg h1_0)
  by_cases h1_1 : x1 = 1
  · replace E := E.trans (if_pos h1_1)
    refine X_tableIn (pc' := 49) (off := 48) Γ d_G_word_1 h1_1 (by decide) (by decide) (by decide) (by decide) ?_
    refine X_aload_n Γ d_G_word_49 rfl 0 rfl rfl ?_
    refine X_get Γ d_G_word_50 (Nat.lt_of_lt_of_le n_2 (by decide : 38 ≤ 56)) (kC_G n_1 n_2) rfl in_G 3 (by decide) w69 rfl rfl rfl ?_
    exact X_ireti Γ d_G_word_53 E.symm rfl
  replace E := E.trans (if_neg h1_1)
  by_cases h1_2 : x1 = 2
  · replace E := E.trans (if_pos h1_2)
    refine X_tableIn (pc' := 54) (off := 53) Γ d_G_word_1 h1_2 (by decide) (by decide) (by decide) (by decide) ?_
    refine X_aload_n Γ d_G_word_54 rfl 0 rfl rfl ?_
    refine X_get Γ d_G_word_55 (Nat.lt_of_lt_of_le n_2 (by decide : 38 ≤ 56)) (kC_G n_1 n_2) rfl in_G 4 (by decide) w72 rfl rfl rfl ?_
    exact X_ireti Γ d_G_word_58 E.symm rfl
  replace E := E.trans (if_neg h1_2)
  by_cases h1_3 : x1 = 3
  · replace E := E.trans (if_pos h1_3)
    refine X_tableIn (pc' := 59) (off := 58) Γ d_G_word_1 h1_3 (by decide) (by decide) (by decide) (by decide) ?_
    refine X_aload_n Γ d_G_word_59 rfl 0 rfl rfl ?_
    refine X_get Γ d_G_word_60 (Nat.lt_of_lt_of_le n_2 (by decide : 38 ≤ 56)) (kC_G n_1 n_2) rfl in_G 5 (by decide) w75 rfl rfl rfl ?_
    exact X_ireti Γ d_G_word_63 E.symm rfl
  replace E := E.trans (if_neg h1_3)
  by_cases h1_4 : x1 = 4
  · replace E := E.trans (if_pos h1_4)
    refine X_tableIn (pc' := 64) (off := 63) Γ d_G_word_1 h1_4 (by decide) (by decide) (by decide) (by decide) ?_
    refine X_aload_n Γ d_G_word_64 rfl 0 rfl rfl ?_
    refine X_get Γ d_G_word_65 (Nat.lt_of_lt_of_le n_2 (by decide : 38 ≤ 56)) (kC_G n_1 n_2) rfl in_G 6 (by decide) w79 rfl rfl rfl ?_
    exact X_ireti Γ d_G_word_68 E.symm rfl
  replace E := E.trans (if_neg h1_4)
  by_cases h1_5 : x1 = 5
  · replace E := E.trans (if_pos h1_5)
    refine X_tableIn (pc' := 69) (off := 68) Γ d_G_word_1 h1_5 (by decide) (by decide) (by decide) (by decide) ?_
    refine X_aload_n Γ d_G_word_69 rfl 0 rfl rfl ?_
    refine X_get Γ d_G_word_70 (Nat.lt_of_lt_of_le n_2 (by decide : 38 ≤ 56)) (kC_G n_1 n_2) rfl in_G 7 (by decide) w83 rfl rfl rfl ?_
    exact X_ireti Γ d_G_word_73 E.symm rfl
  replace E := E.trans (if_neg h1_5)
  by_cases h1_6 : x1 = 6
  · replace E := E.trans (if_pos h1_6)
    refine X_tableIn (pc' := 74) (off := 73) Γ d_G_word_1 h1_6 (by decide) (by decide) (by decide) (by decide) ?_
    refine X_aload_n Γ d_G_word_74 rfl 0 rfl rfl ?_
    refine X_get Γ d_G_word_75 (Nat.lt_of_lt_of_le n_2 (by decide : 38 ≤ 56)) (kC_G n_1 n_2) rfl in_G 8 (by decide) w87 rfl rfl rfl ?_
    exact X_ireti Γ d_G_word_78 E.symm rfl
  replace E := E.trans (if_neg h1_6)
  refine X_tableOut (pc' := 79) Γ d_G_word_1 (tb_0_6 h1_0 h1_1 h1_2 h1_3 h1_4 h1_5 h1_6) (by decide) ?_
  refine X_iconst (v := (-1)) Γ d_G_word_79 (by decide) rfl ?_
  exact X_ireti Γ d_G_word_80 E.symm rfl
def f_G_copyRecords_2 (n : Nat) (n1_ : Nat) (x2 : Int32) (G : Nat → Nat → Int32) : Nat → Int32 → (Nat → Nat → Int32) → (Nat → Nat → Int32)
  | 0, v3_2, Gv2 => Gv2
  | k2 + 1, v3_2, Gv2 => (if (Gv2 n 7) ≤ v3_2 then Gv2 else (if 3 ≤ v3_2 then Gv2 else (f_G_copyRecords_2 n n1_ x2 G k2 (v3_2 + 1) (g2 (g2 Gv2 (n + 9) v3_2.toNatClampNeg ((f_L_stampOf n1_ (x2 + v3_2) Gv2))) (n + 18) v3_2.toNatClampNeg ((f_L_valueOf n1_ (x2 + v3_2) (g2 Gv2 (n + 9) v3_2.toNatClampNeg ((f_L_stampOf n1_ (x2 + v3_2) Gv2)))))))))
def f_G_copyRecords (n : Nat) (n1_ : Nat) (x2 : Int32) (G : Nat → Nat → Int32) : (Nat → Nat → Int32) := (f_G_copyRecords_2 n n1_ x2 G 4 0 G)
theorem e_G_copyRecords : y_G_copyRecords.cls ≠ "java/lang/invoke/MethodHandle" ∧ y_G_copyRecords.cls ≠ "java/lang/invoke/VarHandle" ∧ (parseMethodDescriptor y_G_copyRecords.desc).map (fun d => d.parameters.length) = some 2 := by decide +kernel
set_option maxHeartbeats 4000000 in
set_option maxRecDepth 100000 in
theorem m_G_copyRecords (l : Launch) (D : va_G) (cI cZ cB cM : ClassId) (a : Nat → Nat) (hJ : xJ 56 a) (P : Nat → Nat) (G : Nat → Nat → Int32) (n : Nat) (n_1 : 29 ≤ n) (n_2 : n < 38) (n1_ : Nat) (n1_1 : 6 ≤ n1_) (n1_2 : n1_ < 10) (x2 : Int32) (hE : okL G n1_) : Met l y_G_copyRecords (Cond.code y_G_copyRecords prog_6_method_3_code 4 (Option.none : Option FieldType) :: wsBig) { frames := 2, cells := 0, slots := 0, locals := 42 } (xP D xcl (xty cI cZ cB cM) 56 a (kg (kC cI cB cM a P) G) [.ref (a n), .ref (a n1_), .int x2]) (xQv D xcl 56 a (kg (kC cI cB cM a P) (f_G_copyRecords n n1_ x2 G))) 0 0 (xA 56 a) := by
  refine X_met (by decide) rfl (Nat.le_of_ble_eq_true rfl) hJ (fun Y s m args Γ => ?_)
  show X Y s m D xcl 56 a 4 (kg (kC cI cB cM a P) G) 0 [(0, .ref (a n)), (1, .ref (a n1_)), (2, .int x2)] []
  have E := f_G_copyRecords.eq_1 n n1_ x2 G
  refine X_iconst (v := 0) Γ d_G_copyRecords_0 (by decide) rfl ?_
  refine X_istore_n Γ d_G_copyRecords_1 rfl (by decide) rfl rfl ?_
  have J2 : ∀ (k2 : Nat) (v3_2 : Int32) (Gv2 : Nat → Nat → Int32), (0 < k2 ∧ k2 ≤ 4 ∧ v3_2 = nI (4 - k2) ∧ okL Gv2 n1_) → f_G_copyRecords n n1_ x2 G = f_G_copyRecords_2 n n1_ x2 G k2 v3_2 Gv2 → X Y s m D xcl 56 a 4 (kg (kC cI cB cM a P) Gv2) 2 [(0, .ref (a n)), (1, .ref (a n1_)), (2, .int x2), (3, .int v3_2)] [] := by
    intro k2
    induction k2 with
    | zero => exact fun v3_2 Gv2 hI2 _ => absurd hI2 (fun h => Nat.lt_irrefl 0 h.1)
    | succ k2 ih2 =>
      intro v3_2 Gv2 hI2 E
      rw [f_G_copyRecords_2] at E
      refine X_iload_n Γ d_G_copyRecords_2 rfl 3 rfl rfl ?_
      refine X_aload_n Γ d_G_copyRecords_3 rfl 0 rfl rfl ?_
      refine X_get Γ d_G_copyRecords_4 (Nat.lt_of_lt_of_le n_2 (by decide : 38 ≤ 56)) (kC_G n_1 n_2) rfl in_G 7 (by decide) w83 rfl rfl rfl ?_
      refine X_icmp_ge (tgt := 47) Γ d_G_copyRecords_7 (by decide) rfl (fun h7 => ?_) (fun h7 => ?_)
      · replace E := E.trans (if_pos h7)
        exact X_vret Γ d_G_copyRecords_47 (gv_eq E)
      · replace E := E.trans (if_neg h7)
        refine X_iload_n Γ d_G_copyRecords_10 rfl 3 rfl rfl ?_
        refine X_iconst (v := 3) Γ d_G_copyRecords_11 (by decide) rfl ?_
        refine X_icmp_ge (tgt := 47) Γ d_G_copyRecords_12 (by decide) rfl (fun h12 => ?_) (fun h12 => ?_)
        · replace E := E.trans (if_pos h12)
          exact X_vret Γ d_G_copyRecords_47 (gv_eq E)
        · replace E := E.trans (if_neg h12)
          refine X_aload_n Γ d_G_copyRecords_15 rfl 0 rfl rfl ?_
          refine X_get Γ d_G_copyRecords_16 (Nat.lt_of_lt_of_le n_2 (by decide : 38 ≤ 56)) (kC_G n_1 n_2) rfl in_G 0 (by decide) w63 rfl rfl rfl ?_
          refine X_iload_n Γ d_G_copyRecords_19 rfl 3 rfl rfl ?_
          refine X_aload_n Γ d_G_copyRecords_20 rfl 1 rfl rfl ?_
          refine X_iload_n Γ d_G_copyRecords_21 rfl 2 rfl rfl ?_
          refine X_iload_n Γ d_G_copyRecords_22 rfl 3 rfl rfl ?_
          refine X_iadd Γ d_G_copyRecords_23 rfl ?_
          refine X_callVNi (rest := [.int v3_2, .ref (a (n + 9))]) Γ d_G_copyRecords_24 (m_L_stampOf l D cI cZ cB cM a hJ P Gv2 n1_ n1_1 n1_2 (x2 + v3_2) hI2.2.2.2) (Nat.lt_of_lt_of_le n1_2 (by decide : 10 ≤ 56)) (kC_L n1_1 n1_2) rfl rfl w345 w278 s_L_stampOf w7 w279 e_L_stampOf ⟨by decide, by decide⟩ ⟨rfl, rfl⟩ rfl rfl (Nat.le_of_ble_eq_true rfl) rfl ?_
          refine X_iast (kx := v3_2.toNatClampNeg) Γ d_G_copyRecords_27 (Nat.lt_of_lt_of_le (Nat.lt_of_lt_of_le (Nat.add_lt_add_right n_2 9) (by decide : 38 + 9 ≤ 56)) (by decide : 56 ≤ 56)) (kC_A3 (Nat.le_trans (by decide : 38 ≤ 29 + 9) (Nat.add_le_add_right n_1 9)) (Nat.lt_of_lt_of_le (Nat.add_lt_add_right n_2 9) (by decide : 38 + 9 ≤ 56))) 0 rfl (lc_in (by decide) (by decide) hI2.2.1 hI2.2.2.1 h12) (fun _ => (kC_A3 (Nat.le_trans (by decide : 38 ≤ 29 + 9) (Nat.add_le_add_right n_1 9)) (Nat.lt_of_lt_of_le (Nat.add_lt_add_right n_2 9) (by decide : 38 + 9 ≤ 56)))) rfl rfl ?_
          refine X_aload_n Γ d_G_copyRecords_28 rfl 0 rfl rfl ?_
          refine X_get Γ d_G_copyRecords_29 (Nat.lt_of_lt_of_le n_2 (by decide : 38 ≤ 56)) (kC_G n_1 n_2) rfl in_G 1 (by decide) w64 rfl rfl rfl ?_
          refine X_iload_n Γ d_G_copyRecords_32 rfl 3 rfl rfl ?_
          refine X_aload_n Γ d_G_copyRecords_33 rfl 1 rfl rfl ?_
          refine X_iload_n Γ d_G_copyRecords_34 rfl 2 rfl rfl ?_
          refine X_iload_n Γ d_G_copyRecords_35 rfl 3 rfl rfl ?_
          refine X_iadd Γ d_G_copyRecords_36 rfl ?_
          refine X_callVNi (rest := [.int v3_2, .ref (a (n + 18))]) Γ d_G_copyRecords_37 (m_L_valueOf l D cI cZ cB cM a hJ P (g2 Gv2 (n + 9) v3_2.toNatClampNeg ((f_L_stampOf n1_ (x2 + v3_2) Gv2))) n1_ n1_1 n1_2 (x2 + v3_2) (okL_g2 hI2.2.2.2 (by omega))) (Nat.lt_of_lt_of_le n1_2 (by decide : 10 ≤ 56)) (kC_L n1_1 n1_2) rfl rfl w346 w287 s_L_valueOf w7 w288 e_L_valueOf ⟨by decide, by decide⟩ ⟨rfl, rfl⟩ rfl rfl (Nat.le_of_ble_eq_true rfl) rfl ?_
          refine X_iast (kx := v3_2.toNatClampNeg) Γ d_G_copyRecords_40 (Nat.lt_of_lt_of_le (Nat.lt_of_lt_of_le (Nat.add_lt_add_right n_2 18) (by decide : 38 + 18 ≤ 56)) (by decide : 56 ≤ 56)) (kC_A3 (Nat.le_trans (by decide : 38 ≤ 29 + 18) (Nat.add_le_add_right n_1 18)) (Nat.lt_of_lt_of_le (Nat.add_lt_add_right n_2 18) (by decide : 38 + 18 ≤ 56))) 0 rfl (lc_in (by decide) (by decide) hI2.2.1 hI2.2.2.1 h12) (fun _ => (kC_A3 (Nat.le_trans (by decide : 38 ≤ 29 + 18) (Nat.add_le_add_right n_1 18)) (Nat.lt_of_lt_of_le (Nat.add_lt_add_right n_2 18) (by decide : 38 + 18 ≤ 56)))) rfl rfl ?_
          refine X_iinc (v := (v3_2 + 1)) Γ d_G_copyRecords_41 3 rfl rfl (by decide) rfl rfl ?_
          refine X_goto (pc' := 2) Γ d_G_copyRecords_44 (by decide) ?_
          refine X_loc [1, 2, 3, 0] rfl ?_
          exact ih2 (v3_2 + 1) (g2 (g2 Gv2 (n + 9) v3_2.toNatClampNeg ((f_L_stampOf n1_ (x2 + v3_2) Gv2))) (n + 18) v3_2.toNatClampNeg ((f_L_valueOf n1_ (x2 + v3_2) (g2 Gv2 (n + 9) v3_2.toNatClampNeg ((f_L_stampOf n1_ (x2 + v3_2) Gv2)))))) (⟨(lc_step (by decide) (by decide) hI2.1 hI2.2.1 hI2.2.2.1 h12).1, (lc_step (by decide) (by decide) hI2.1 hI2.2.1 hI2.2.2.1 h12).2.1, (lc_step (by decide) (by decide) hI2.1 hI2.2.1 hI2.2.2.1 h12).2.2, okL_g2 (okL_g2 hI2.2.2.2 (by omega)) (by omega)⟩) E
  refine X_loc [1, 2, 3, 0] rfl ?_
  exact J2 4 0 G (⟨by decide, by decide, by decide, hE⟩) E
def f_G_appendRecords_2 (n : Nat) (n1_ : Nat) (G : Nat → Nat → Int32) : Nat → Int32 → (Nat → Nat → Int32) → (Nat → Nat → Int32)
  | 0, v2_2, Gv2 => Gv2
  | k2 + 1, v2_2, Gv2 => (if (Gv2 n 7) ≤ v2_2 then Gv2 else (if 3 ≤ v2_2 then Gv2 else (f_G_appendRecords_2 n n1_ G k2 (v2_2 + 1) ((f_L_add n1_ (Gv2 (n + 9) v2_2.toNatClampNeg) (Gv2 (n + 18) v2_2.toNatClampNeg) Gv2)))))
def f_G_appendRecords (n : Nat) (n1_ : Nat) (G : Nat → Nat → Int32) : (Nat → Nat → Int32) := (f_G_appendRecords_2 n n1_ G 4 0 G)
theorem e_G_appendRecords : y_G_appendRecords.cls ≠ "java/lang/invoke/MethodHandle" ∧ y_G_appendRecords.cls ≠ "java/lang/invoke/VarHandle" ∧ (parseMethodDescriptor y_G_appendRecords.desc).map (fun d => d.parameters.length) = some 1 := by decide +kernel
set_option maxHeartbeats 4000000 in
set_option maxRecDepth 100000 in
theorem m_G_appendRecords (l : Launch) (D : va_G) (cI cZ cB cM : ClassId) (a : Nat → Nat) (hJ : xJ 56 a) (P : Nat → Nat) (G : Nat → Nat → Int32) (n : Nat) (n_1 : 29 ≤ n) (n_2 : n < 38) (n1_ : Nat) (n1_1 : 6 ≤ n1_) (n1_2 : n1_ < 10) (hE : okL G n1_) : Met l y_G_appendRecords (Cond.code y_G_appendRecords prog_6_method_4_code 3 (Option.none : Option FieldType) :: wsBig) { frames := 2, cells := 0, slots := 0, locals := 42 } (xP D xcl (xty cI cZ cB cM) 56 a (kg (kC cI cB cM a P) G) [.ref (a n), .ref (a n1_)]) (xQv D xcl 56 a (kg (kC cI cB cM a P) (f_G_appendRecords n n1_ G))) 0 0 (xA 56 a) := by
  refine X_met (by decide) rfl (Nat.le_of_ble_eq_true rfl) hJ (fun Y s m args Γ => ?_)
  show X Y s m D xcl 56 a 3 (kg (kC cI cB cM a P) G) 0 [(0, .ref (a n)), (1, .ref (a n1_))] []
  have E := f_G_appendRecords.eq_1 n n1_ G
  refine X_iconst (v := 0) Γ d_G_appendRecords_0 (by decide) rfl ?_
  refine X_istore_n Γ d_G_appendRecords_1 rfl (by decide) rfl rfl ?_
  have J2 : ∀ (k2 : Nat) (v2_2 : Int32) (Gv2 : Nat → Nat → Int32), (0 < k2 ∧ k2 ≤ 4 ∧ v2_2 = nI (4 - k2) ∧ okL Gv2 n1_) → f_G_appendRecords n n1_ G = f_G_appendRecords_2 n n1_ G k2 v2_2 Gv2 → X Y s m D xcl 56 a 3 (kg (kC cI cB cM a P) Gv2) 2 [(0, .ref (a n)), (1, .ref (a n1_)), (2, .int v2_2)] [] := by
    intro k2
    induction k2 with
    | zero => exact fun v2_2 Gv2 hI2 _ => absurd hI2 (fun h => Nat.lt_irrefl 0 h.1)
    | succ k2 ih2 =>
      intro v2_2 Gv2 hI2 E
      rw [f_G_appendRecords_2] at E
      refine X_iload_n Γ d_G_appendRecords_2 rfl 2 rfl rfl ?_
      refine X_aload_n Γ d_G_appendRecords_3 rfl 0 rfl rfl ?_
      refine X_get Γ d_G_appendRecords_4 (Nat.lt_of_lt_of_le n_2 (by decide : 38 ≤ 56)) (kC_G n_1 n_2) rfl in_G 7 (by decide) w83 rfl rfl rfl ?_
      refine X_icmp_ge (tgt := 37) Γ d_G_appendRecords_7 (by decide) rfl (fun h7 => ?_) (fun h7 => ?_)
      · replace E := E.trans (if_pos h7)
        exact X_vret Γ d_G_appendRecords_37 (gv_eq E)
      · replace E := E.trans (if_neg h7)
        refine X_iload_n Γ d_G_appendRecords_10 rfl 2 rfl rfl ?_
        refine X_iconst (v := 3) Γ d_G_appendRecords_11 (by decide) rfl ?_
        refine X_icmp_ge (tgt := 37) Γ d_G_appendRecords_12 (by decide) rfl (fun h12 => ?_) (fun h12 => ?_)
        · replace E := E.trans (if_pos h12)
          exact X_vret Γ d_G_appendRecords_37 (gv_eq E)
        · replace E := E.trans (if_neg h12)
          refine X_aload_n Γ d_G_appendRecords_15 rfl 1 rfl rfl ?_
          refine X_aload_n Γ d_G_appendRecords_16 rfl 0 rfl rfl ?_
          refine X_get Γ d_G_appendRecords_17 (Nat.lt_of_lt_of_le n_2 (by decide : 38 ≤ 56)) (kC_G n_1 n_2) rfl in_G 0 (by decide) w63 rfl rfl rfl ?_
          refine X_iload_n Γ d_G_appendRecords_20 rfl 2 rfl rfl ?_
          refine X_iald (v := (Gv2 (n + 9) v2_2.toNatClampNeg)) Γ d_G_appendRecords_21 (Nat.lt_of_lt_of_le (Nat.lt_of_lt_of_le (Nat.add_lt_add_right n_2 9) (by decide : 38 + 9 ≤ 56)) (by decide : 56 ≤ 56)) (kC_A3 (Nat.le_trans (by decide : 38 ≤ 29 + 9) (Nat.add_le_add_right n_1 9)) (Nat.lt_of_lt_of_le (Nat.add_lt_add_right n_2 9) (by decide : 38 + 9 ≤ 56))) 0 rfl (lc_in (by decide) (by decide) hI2.2.1 hI2.2.2.1 h12) rfl rfl ?_
          refine X_aload_n Γ d_G_appendRecords_22 rfl 0 rfl rfl ?_
          refine X_get Γ d_G_appendRecords_23 (Nat.lt_of_lt_of_le n_2 (by decide : 38 ≤ 56)) (kC_G n_1 n_2) rfl in_G 1 (by decide) w64 rfl rfl rfl ?_
          refine X_iload_n Γ d_G_appendRecords_26 rfl 2 rfl rfl ?_
          refine X_iald (v := (Gv2 (n + 18) v2_2.toNatClampNeg)) Γ d_G_appendRecords_27 (Nat.lt_of_lt_of_le (Nat.lt_of_lt_of_le (Nat.add_lt_add_right n_2 18) (by decide : 38 + 18 ≤ 56)) (by decide : 56 ≤ 56)) (kC_A3 (Nat.le_trans (by decide : 38 ≤ 29 + 18) (Nat.add_le_add_right n_1 18)) (Nat.lt_of_lt_of_le (Nat.add_lt_add_right n_2 18) (by decide : 38 + 18 ≤ 56))) 0 rfl (lc_in (by decide) (by decide) hI2.2.1 hI2.2.2.1 h12) rfl rfl ?_
          refine X_callVNv (rest := []) Γ d_G_appendRecords_28 (m_L_add l D cI cZ cB cM a hJ P Gv2 n1_ n1_1 n1_2 (Gv2 (n + 9) v2_2.toNatClampNeg) (Gv2 (n + 18) v2_2.toNatClampNeg) hI2.2.2.2) (Nat.lt_of_lt_of_le n1_2 (by decide : 10 ≤ 56)) (kC_L n1_1 n1_2) rfl rfl w375 w248 s_L_add w7 w249 e_L_add ⟨by decide, by decide⟩ ⟨rfl, rfl⟩ rfl rfl (Nat.le_of_ble_eq_true rfl) rfl ?_
          refine X_iinc (v := (v2_2 + 1)) Γ d_G_appendRecords_31 2 rfl rfl (by decide) rfl rfl ?_
          refine X_goto (pc' := 2) Γ d_G_appendRecords_34 (by decide) ?_
          refine X_loc [1, 2, 0] rfl ?_
          exact ih2 (v2_2 + 1) ((f_L_add n1_ (Gv2 (n + 9) v2_2.toNatClampNeg) (Gv2 (n + 18) v2_2.toNatClampNeg) Gv2)) (⟨(lc_step (by decide) (by decide) hI2.1 hI2.2.1 hI2.2.2.1 h12).1, (lc_step (by decide) (by decide) hI2.1 hI2.2.1 hI2.2.2.1 h12).2.1, (lc_step (by decide) (by decide) hI2.1 hI2.2.1 hI2.2.2.1 h12).2.2, okL_add hI2.2.2.2⟩) E
  refine X_loc [1, 2, 0] rfl ?_
  exact J2 4 0 G (⟨by decide, by decide, by decide, hE⟩) E
