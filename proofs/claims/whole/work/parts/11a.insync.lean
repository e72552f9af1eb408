def f_I_isUp (x1 : Int32) (G : Nat → Nat → Int32) : Int32 := (if ((f_I_isBroker x1)) = 0 then 0 else (if (G (2 + x1.toNatClampNeg) 4) = 0 then 0 else 1))
theorem e_I_isUp : y_I_isUp.cls ≠ "java/lang/invoke/MethodHandle" ∧ y_I_isUp.cls ≠ "java/lang/invoke/VarHandle" ∧ (parseMethodDescriptor y_I_isUp.desc).map (fun d => d.parameters.length) = some 1 := by decide +kernel
set_option maxHeartbeats 4000000 in
set_option maxRecDepth 100000 in
theorem m_I_isUp (l : Launch) (D : va_G) (cI cZ cB cM : ClassId) (a : Nat → Nat) (hJ : xJ 56 a) (P : Nat → Nat) (G : Nat → Nat → Int32) (x1 : Int32) : Met l y_I_isUp (Cond.code y_I_isUp prog_1_method_25_code 2 (Option.some FieldType.boolean) :: wsBig) { frames := 1, cells := 0, slots := 0, locals := 20 } (xP D xcl (xty cI cZ cB cM) 56 a (kg (kC cI cB cM a P) G) [.ref (a 0), .int x1]) (xQi D xcl 56 a (f_I_isUp x1 G) (kg (kC cI cB cM a P) G)) 0 0 (xA 56 a) := by
  refine X_met (by decide) rfl (Nat.le_of_ble_eq_true rfl) hJ (fun Y s m args Γ => ?_)
  show X Y s m D xcl 56 a 2 (kg (kC cI cB cM a P) G) 0 [(0, .ref (a 0)), (1, .int x1)] []
  have E := f_I_isUp.eq_1 x1 G
  refine X_iload_n Γ d_I_isUp_0 rfl 1 rfl rfl ?_
  refine X_callSi (rest := []) Γ d_I_isUp_1 (m_I_isBroker l D _ _ _ _ hJ _ _ x1) w225 w226 w1 w227 e_I_isBroker ⟨by decide, by decide⟩ ⟨rfl, rfl⟩ rfl rfl (Nat.le_of_ble_eq_true rfl) rfl ?_
  refine X_if_eq (tgt := 23) Γ d_I_isUp_4 (by decide) rfl (fun h4 => ?_) (fun h4 => ?_)
  · replace E := E.trans (if_pos h4)
    refine X_iconst (v := 0) Γ d_I_isUp_23 (by decide) rfl ?_
    exact X_iretz Γ d_I_isUp_24 rfl E.symm rfl
  · replace E := E.trans (if_neg h4)
    refine X_aload_n Γ d_I_isUp_7 rfl 0 rfl rfl ?_
    refine X_get Γ d_I_isUp_8 (by decide) kC_I rfl in_I 3 (by decide) w198 rfl rfl rfl ?_
    refine X_iload_n Γ d_I_isUp_11 rfl 1 rfl rfl ?_
    refine X_aald Γ d_I_isUp_12 (by decide) kC_BA 2 rfl (isB_in h4) rfl rfl ?_
    refine X_getN Γ d_I_isUp_13 (Nat.lt_of_lt_of_le (Nat.add_lt_add_left (vp_lt (isB_in h4)) 2) (by decide : 6 ≤ 56)) (kC_B (Nat.le_add_right 2 _) (Nat.add_lt_add_left (vp_lt (isB_in h4)) 2)) rfl in_B 4 (by decide) w155 rfl rfl rfl ?_
    refine X_if_eq (tgt := 23) Γ d_I_isUp_16 (by decide) rfl (fun h16 => ?_) (fun h16 => ?_)
    · replace E := E.trans (if_pos h16)
      refine X_iconst (v := 0) Γ d_I_isUp_23 (by decide) rfl ?_
      exact X_iretz Γ d_I_isUp_24 rfl E.symm rfl
    · replace E := E.trans (if_neg h16)
      refine X_iconst (v := 1) Γ d_I_isUp_19 (by decide) rfl ?_
      refine X_goto (pc' := 24) Γ d_I_isUp_20 (by decide) ?_
      exact X_iretz Γ d_I_isUp_24 rfl E.symm rfl
def f_I_isLeading (x1 : Int32) (G : Nat → Nat → Int32) : Int32 := (if ((f_I_isBroker x1)) = 0 then 0 else (if ((f_B_leads (2 + x1.toNatClampNeg) G)) = 0 then 0 else 1))
theorem e_I_isLeading : y_I_isLeading.cls ≠ "java/lang/invoke/MethodHandle" ∧ y_I_isLeading.cls ≠ "java/lang/invoke/VarHandle" ∧ (parseMethodDescriptor y_I_isLeading.desc).map (fun d => d.parameters.length) = some 1 := by decide +kernel
set_option maxHeartbeats 4000000 in
set_option maxRecDepth 100000 in
theorem m_I_isLeading (l : Launch) (D : va_G) (cI cZ cB cM : ClassId) (a : Nat → Nat) (hJ : xJ 56 a) (P : Nat → Nat) (G : Nat → Nat → Int32) (x1 : Int32) : Met l y_I_isLeading (Cond.code y_I_isLeading prog_1_method_26_code 2 (Option.some FieldType.boolean) :: wsBig) { frames := 1, cells := 0, slots := 0, locals := 20 } (xP D xcl (xty cI cZ cB cM) 56 a (kg (kC cI cB cM a P) G) [.ref (a 0), .int x1]) (xQi D xcl 56 a (f_I_isLeading x1 G) (kg (kC cI cB cM a P) G)) 0 0 (xA 56 a) := by
  refine X_met (by decide) rfl (Nat.le_of_ble_eq_true rfl) hJ (fun Y s m args Γ => ?_)
  show X Y s m D xcl 56 a 2 (kg (kC cI cB cM a P) G) 0 [(0, .ref (a 0)), (1, .int x1)] []
  have E := f_I_isLeading.eq_1 x1 G
  refine X_iload_n Γ d_I_isLeading_0 rfl 1 rfl rfl ?_
  refine X_callSi (rest := []) Γ d_I_isLeading_1 (m_I_isBroker l D _ _ _ _ hJ _ _ x1) w225 w226 w1 w227 e_I_isBroker ⟨by decide, by decide⟩ ⟨rfl, rfl⟩ rfl rfl (Nat.le_of_ble_eq_true rfl) rfl ?_
  refine X_if_eq (tgt := 23) Γ d_I_isLeading_4 (by decide) rfl (fun h4 => ?_) (fun h4 => ?_)
  · replace E := E.trans (if_pos h4)
    refine X_iconst (v := 0) Γ d_I_isLeading_23 (by decide) rfl ?_
    exact X_iretz Γ d_I_isLeading_24 rfl E.symm rfl
  · replace E := E.trans (if_neg h4)
    refine X_aload_n Γ d_I_isLeading_7 rfl 0 rfl rfl ?_
    refine X_get Γ d_I_isLeading_8 (by decide) kC_I rfl in_I 3 (by decide) w198 rfl rfl rfl ?_
    refine X_iload_n Γ d_I_isLeading_11 rfl 1 rfl rfl ?_
    refine X_aald Γ d_I_isLeading_12 (by decide) kC_BA 2 rfl (isB_in h4) rfl rfl ?_
    refine X_callVNi (rest := []) Γ d_I_isLeading_13 (m_B_leads l D cI cZ cB cM a hJ P G (2 + x1.toNatClampNeg) (Nat.le_add_right 2 _) (Nat.add_lt_add_left (vp_lt (isB_in h4)) 2)) (Nat.lt_of_lt_of_le (Nat.add_lt_add_left (vp_lt (isB_in h4)) 2) (by decide : 6 ≤ 56)) (kC_B (Nat.le_add_right 2 _) (Nat.add_lt_add_left (vp_lt (isB_in h4)) 2)) rfl rfl w228 w230 s_B_leads w6 w231 e_B_leads ⟨by decide, by decide⟩ ⟨rfl, rfl⟩ rfl rfl (Nat.le_of_ble_eq_true rfl) rfl ?_
    refine X_if_eq (tgt := 23) Γ d_I_isLeading_16 (by decide) rfl (fun h16 => ?_) (fun h16 => ?_)
    · replace E := E.trans (if_pos h16)
      refine X_iconst (v := 0) Γ d_I_isLeading_23 (by decide) rfl ?_
      exact X_iretz Γ d_I_isLeading_24 rfl E.symm rfl
    · replace E := E.trans (if_neg h16)
      refine X_iconst (v := 1) Γ d_I_isLeading_19 (by decide) rfl ?_
      refine X_goto (pc' := 24) Γ d_I_isLeading_20 (by decide) ?_
      exact X_iretz Γ d_I_isLeading_24 rfl E.symm rfl
theorem isUp_in {x : Int32} {G : Nat → Nat → Int32} (h : ¬ f_I_isUp x G = 0) : vp_in x 4 := by
  apply isB_in
  intro q
  apply h
  unfold f_I_isUp
  rw [if_pos q]
theorem isLd_in {x : Int32} {G : Nat → Nat → Int32} (h : ¬ f_I_isLeading x G = 0) : vp_in x 4 := by
  apply isB_in
  intro q
  apply h
  unfold f_I_isLeading
  rw [if_pos q]
def okW (G : Nat → Nat → Int32) (n : Nat) : Prop := 0 ≤ (G n 7).toInt ∧ (G n 7).toInt ≤ 40
theorem cm_init {G : Nat → Nat → Int32} {n : Nat} (h : okW G n) : (G n 7 - 1).toInt + 1 < ((42 : Nat) : Int) ∧ -1 ≤ (G n 7 - 1).toInt := by
  unfold okW at h
  rw [i_sub (by rw [i1]; omega) (by rw [i1]; omega), i1]
  omega
theorem cm_step {v : Int32} {k : Nat} (hI : v.toInt + 1 < ((k + 1 : Nat) : Int) ∧ -1 ≤ v.toInt) (h : ¬ v < 0) : (v + (-1)).toInt + 1 < (k : Int) ∧ -1 ≤ (v + (-1)).toInt := by
  rw [i_lt, i0] at h
  have hb : v.toInt < 2147483648 := by have := Int32.toInt_lt v; omega
  rw [i_add (by rw [im1]; omega) (by rw [im1]; omega), im1]
  omega
def f_I_append (n1_ : Nat) (x2 : Int32) (x3 : Int32) (G : Nat → Nat → Int32) : Int32 × (Nat → Nat → Int32) := (if ((f_L_isFull (n1_ + 4) G)) = 0 then (if (G 0 2) ≤ ((f_Int_bitCount (G n1_ 11))) then (((((f_B_raiseHw n1_ ((f_L_add (n1_ + 4) x2 x3 G)))) (n1_ + 4) 2) - 1), ((f_B_raiseHw n1_ ((f_L_add (n1_ + 4) x2 x3 G))))) else ((-3), G)) else ((-2), G))
theorem e_I_append : y_I_append.cls ≠ "java/lang/invoke/MethodHandle" ∧ y_I_append.cls ≠ "java/lang/invoke/VarHandle" ∧ (parseMethodDescriptor y_I_append.desc).map (fun d => d.parameters.length) = some 3 := by decide +kernel
set_option maxHeartbeats 4000000 in
set_option maxRecDepth 100000 in
theorem m_I_append (l : Launch) (D : va_G) (cI cZ cB cM : ClassId) (a : Nat → Nat) (hJ : xJ 56 a) (P : Nat → Nat) (G : Nat → Nat → Int32) (n1_ : Nat) (n1_1 : 2 ≤ n1_) (n1_2 : n1_ < 6) (x2 : Int32) (x3 : Int32) (hE : okL G (n1_ + 4)) : Met l y_I_append (Cond.code y_I_append prog_1_method_27_code 4 (Option.some FieldType.int) :: wsBig) { frames := 2, cells := 0, slots := 0, locals := 43 } (xP D xcl (xty cI cZ cB cM) 56 a (kg (kC cI cB cM a P) G) [.ref (a 0), .ref (a n1_), .int x2, .int x3]) (xQi D xcl 56 a ((f_I_append n1_ x2 x3 G).1) (kg (kC cI cB cM a P) ((f_I_append n1_ x2 x3 G).2))) 0 0 (xA 56 a) := by
  refine X_met (by decide) rfl (Nat.le_of_ble_eq_true rfl) hJ (fun Y s m args Γ => ?_)
  show X Y s m D xcl 56 a 4 (kg (kC cI cB cM a P) G) 0 [(0, .ref (a 0)), (1, .ref (a n1_)), (2, .int x2), (3, .int x3)] []
  have E := f_I_append.eq_1 n1_ x2 x3 G
  refine X_aload_n Γ d_I_append_0 rfl 1 rfl rfl ?_
  refine X_getN Γ d_I_append_1 (Nat.lt_of_lt_of_le n1_2 (by decide : 6 ≤ 56)) (kC_B n1_1 n1_2) rfl in_B 1 (by decide) w151 rfl rfl rfl ?_
  refine X_callVNi (rest := []) Γ d_I_append_4 (m_L_isFull l D cI cZ cB cM a hJ P G (n1_ + 4) (Nat.le_trans (by decide : 6 ≤ 2 + 4) (Nat.add_le_add_right n1_1 4)) (Nat.lt_of_lt_of_le (Nat.add_lt_add_right n1_2 4) (by decide : 6 + 4 ≤ 10))) (Nat.lt_of_lt_of_le (Nat.lt_of_lt_of_le (Nat.add_lt_add_right n1_2 4) (by decide : 6 + 4 ≤ 10)) (by decide : 10 ≤ 56)) (kC_L (Nat.le_trans (by decide : 6 ≤ 2 + 4) (Nat.add_le_add_right n1_1 4)) (Nat.lt_of_lt_of_le (Nat.add_lt_add_right n1_2 4) (by decide : 6 + 4 ≤ 10))) rfl rfl w236 w238 s_L_isFull w7 w239 e_L_isFull ⟨by decide, by decide⟩ ⟨rfl, rfl⟩ rfl rfl (Nat.le_of_ble_eq_true rfl) rfl ?_
  refine X_if_eq (tgt := 13) Γ d_I_append_7 (by decide) rfl (fun h7 => ?_) (fun h7 => ?_)
  · replace E := E.trans (if_pos h7)
    refine X_aload_n Γ d_I_append_13 rfl 1 rfl rfl ?_
    refine X_getN Γ d_I_append_14 (Nat.lt_of_lt_of_le n1_2 (by decide : 6 ≤ 56)) (kC_B n1_1 n1_2) rfl in_B 11 (by decide) w169 rfl rfl rfl ?_
    refine X_callSi (rest := []) Γ d_I_append_17 (m_Int_bitCount l D _ _ _ _ hJ _ _ (G n1_ 11)) w240 w241 w10 w242 e_Int_bitCount ⟨by decide, by decide⟩ ⟨rfl, rfl⟩ rfl rfl (Nat.le_of_ble_eq_true rfl) rfl ?_
    refine X_aload_n Γ d_I_append_20 rfl 0 rfl rfl ?_
    refine X_get Γ d_I_append_21 (by decide) kC_I rfl in_I 2 (by decide) w197 rfl rfl rfl ?_
    refine X_icmp_ge (tgt := 30) Γ d_I_append_24 (by decide) rfl (fun h24 => ?_) (fun h24 => ?_)
    · replace E := E.trans (if_pos h24)
      refine X_aload_n Γ d_I_append_30 rfl 1 rfl rfl ?_
      refine X_getN Γ d_I_append_31 (Nat.lt_of_lt_of_le n1_2 (by decide : 6 ≤ 56)) (kC_B n1_1 n1_2) rfl in_B 1 (by decide) w151 rfl rfl rfl ?_
      refine X_iload_n Γ d_I_append_34 rfl 2 rfl rfl ?_
      refine X_iload_n Γ d_I_append_35 rfl 3 rfl rfl ?_
      refine X_callVNv (rest := []) Γ d_I_append_36 (m_L_add l D cI cZ cB cM a hJ P G (n1_ + 4) (Nat.le_trans (by decide : 6 ≤ 2 + 4) (Nat.add_le_add_right n1_1 4)) (Nat.lt_of_lt_of_le (Nat.add_lt_add_right n1_2 4) (by decide : 6 + 4 ≤ 10)) x2 x3 hE) (Nat.lt_of_lt_of_le (Nat.lt_of_lt_of_le (Nat.add_lt_add_right n1_2 4) (by decide : 6 + 4 ≤ 10)) (by decide : 10 ≤ 56)) (kC_L (Nat.le_trans (by decide : 6 ≤ 2 + 4) (Nat.add_le_add_right n1_1 4)) (Nat.lt_of_lt_of_le (Nat.add_lt_add_right n1_2 4) (by decide : 6 + 4 ≤ 10))) rfl rfl w246 w248 s_L_add w7 w249 e_L_add ⟨by decide, by decide⟩ ⟨rfl, rfl⟩ rfl rfl (Nat.le_of_ble_eq_true rfl) rfl ?_
      refine X_aload_n Γ d_I_append_39 rfl 1 rfl rfl ?_
      refine X_callVNv (rest := []) Γ d_I_append_40 (m_B_raiseHw l D cI cZ cB cM a hJ P ((f_L_add (n1_ + 4) x2 x3 G)) n1_ n1_1 n1_2) (Nat.lt_of_lt_of_le n1_2 (by decide : 6 ≤ 56)) (kC_B n1_1 n1_2) rfl rfl w251 w253 s_B_raiseHw w6 w254 e_B_raiseHw ⟨by decide, by decide⟩ ⟨rfl, rfl⟩ rfl rfl (Nat.le_of_ble_eq_true rfl) rfl ?_
      refine X_aload_n Γ d_I_append_43 rfl 1 rfl rfl ?_
      refine X_getN Γ d_I_append_44 (Nat.lt_of_lt_of_le n1_2 (by decide : 6 ≤ 56)) (kC_B n1_1 n1_2) rfl in_B 1 (by decide) w151 rfl rfl rfl ?_
      refine X_getN Γ d_I_append_47 (Nat.lt_of_lt_of_le (Nat.lt_of_lt_of_le (Nat.add_lt_add_right n1_2 4) (by decide : 6 + 4 ≤ 10)) (by decide : 10 ≤ 56)) (kC_L (Nat.le_trans (by decide : 6 ≤ 2 + 4) (Nat.add_le_add_right n1_1 4)) (Nat.lt_of_lt_of_le (Nat.add_lt_add_right n1_2 4) (by decide : 6 + 4 ≤ 10))) rfl in_L 2 (by decide) w137 rfl rfl rfl ?_
      refine X_iconst (v := 1) Γ d_I_append_50 (by decide) rfl ?_
      refine X_isub Γ d_I_append_51 rfl ?_
      exact X_ireti Γ d_I_append_52 (g_r E) (g_eq E)
    · replace E := E.trans (if_neg h24)
      refine X_bipush (v := (-3)) Γ d_I_append_27 (by decide) rfl ?_
      exact X_ireti Γ d_I_append_29 (g_r E) (g_eq E)
  · replace E := E.trans (if_neg h7)
    refine X_bipush (v := (-2)) Γ d_I_append_10 (by decide) rfl ?_
    exact X_ireti Γ d_I_append_12 (g_r E) (g_eq E)
