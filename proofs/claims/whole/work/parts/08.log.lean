def f_L_has (n : Nat) (x1 : Int32) (G : Nat → Nat → Int32) : Int32 := (if x1 < 0 then 0 else (if (G n 2) ≤ x1 then 0 else 1))
theorem e_L_has : y_L_has.cls ≠ "java/lang/invoke/MethodHandle" ∧ y_L_has.cls ≠ "java/lang/invoke/VarHandle" ∧ (parseMethodDescriptor y_L_has.desc).map (fun d => d.parameters.length) = some 1 := by decide +kernel
set_option maxHeartbeats 4000000 in
set_option maxRecDepth 100000 in
theorem m_L_has (l : Launch) (D : va_G) (cI cZ cB cM : ClassId) (a : Nat → Nat) (hJ : xJ 56 a) (P : Nat → Nat) (G : Nat → Nat → Int32) (n : Nat) (n_1 : 6 ≤ n) (n_2 : n < 10) (x1 : Int32) : Met l y_L_has (Cond.code y_L_has prog_5_method_2_code 2 (Option.some FieldType.boolean) :: wsBig) { frames := 0, cells := 0, slots := 0, locals := 0 } (xP D xcl (xty cI cZ cB cM) 56 a (kg (kC cI cB cM a P) G) [.ref (a n), .int x1]) (xQi D xcl 56 a (f_L_has n x1 G) (kg (kC cI cB cM a P) G)) 0 0 (xA 56 a) := by
  refine X_met (by decide) rfl (Nat.le_of_ble_eq_true rfl) hJ (fun Y s m args Γ => ?_)
  show X Y s m D xcl 56 a 2 (kg (kC cI cB cM a P) G) 0 [(0, .ref (a n)), (1, .int x1)] []
  have E := f_L_has.eq_1 n x1 G
  refine X_iload_n Γ d_L_has_0 rfl 1 rfl rfl ?_
  refine X_if_lt (tgt := 16) Γ d_L_has_1 (by decide) rfl (fun h1 => ?_) (fun h1 => ?_)
  · replace E := E.trans (if_pos h1)
    refine X_iconst (v := 0) Γ d_L_has_16 (by decide) rfl ?_
    exact X_iretz Γ d_L_has_17 rfl E.symm rfl
  · replace E := E.trans (if_neg h1)
    refine X_iload_n Γ d_L_has_4 rfl 1 rfl rfl ?_
    refine X_aload_n Γ d_L_has_5 rfl 0 rfl rfl ?_
    refine X_get Γ d_L_has_6 (Nat.lt_of_lt_of_le n_2 (by decide : 10 ≤ 56)) (kC_L n_1 n_2) rfl in_L 2 (by decide) w135 rfl rfl rfl ?_
    refine X_icmp_ge (tgt := 16) Γ d_L_has_9 (by decide) rfl (fun h9 => ?_) (fun h9 => ?_)
    · replace E := E.trans (if_pos h9)
      refine X_iconst (v := 0) Γ d_L_has_16 (by decide) rfl ?_
      exact X_iretz Γ d_L_has_17 rfl E.symm rfl
    · replace E := E.trans (if_neg h9)
      refine X_iconst (v := 1) Γ d_L_has_12 (by decide) rfl ?_
      refine X_goto (pc' := 17) Γ d_L_has_13 (by decide) ?_
      exact X_iretz Γ d_L_has_17 rfl E.symm rfl
def f_L_isFull (n : Nat) (G : Nat → Nat → Int32) : Int32 := (if (G n 2) < 40 then 0 else 1)
theorem e_L_isFull : y_L_isFull.cls ≠ "java/lang/invoke/MethodHandle" ∧ y_L_isFull.cls ≠ "java/lang/invoke/VarHandle" ∧ (parseMethodDescriptor y_L_isFull.desc).map (fun d => d.parameters.length) = some 0 := by decide +kernel
set_option maxHeartbeats 4000000 in
set_option maxRecDepth 100000 in
theorem m_L_isFull (l : Launch) (D : va_G) (cI cZ cB cM : ClassId) (a : Nat → Nat) (hJ : xJ 56 a) (P : Nat → Nat) (G : Nat → Nat → Int32) (n : Nat) (n_1 : 6 ≤ n) (n_2 : n < 10) : Met l y_L_isFull (Cond.code y_L_isFull prog_5_method_3_code 1 (Option.some FieldType.boolean) :: wsBig) { frames := 0, cells := 0, slots := 0, locals := 0 } (xP D xcl (xty cI cZ cB cM) 56 a (kg (kC cI cB cM a P) G) [.ref (a n)]) (xQi D xcl 56 a (f_L_isFull n G) (kg (kC cI cB cM a P) G)) 0 0 (xA 56 a) := by
  refine X_met (by decide) rfl (Nat.le_of_ble_eq_true rfl) hJ (fun Y s m args Γ => ?_)
  show X Y s m D xcl 56 a 1 (kg (kC cI cB cM a P) G) 0 [(0, .ref (a n))] []
  have E := f_L_isFull.eq_1 n G
  refine X_aload_n Γ d_L_isFull_0 rfl 0 rfl rfl ?_
  refine X_get Γ d_L_isFull_1 (Nat.lt_of_lt_of_le n_2 (by decide : 10 ≤ 56)) (kC_L n_1 n_2) rfl in_L 2 (by decide) w135 rfl rfl rfl ?_
  refine X_bipush (v := 40) Γ d_L_isFull_4 (by decide) rfl ?_
  refine X_icmp_lt (tgt := 13) Γ d_L_isFull_6 (by decide) rfl (fun h6 => ?_) (fun h6 => ?_)
  · replace E := E.trans (if_pos h6)
    refine X_iconst (v := 0) Γ d_L_isFull_13 (by decide) rfl ?_
    exact X_iretz Γ d_L_isFull_14 rfl E.symm rfl
  · replace E := E.trans (if_neg h6)
    refine X_iconst (v := 1) Γ d_L_isFull_9 (by decide) rfl ?_
    refine X_goto (pc' := 14) Γ d_L_isFull_10 (by decide) ?_
    exact X_iretz Γ d_L_isFull_14 rfl E.symm rfl
/-! A log's end is in range. -/
def okL (G : Nat → Nat → Int32) (n : Nat) : Prop := 0 ≤ (G n 2).toInt ∧ (G n 2).toInt ≤ 40
theorem okL_of {G G' : Nat → Nat → Int32} {n : Nat} (h : okL G n) (e : G' n = G n) : okL G' n := by
  unfold okL
  rw [e]
  exact h
theorem okL_g2 {G : Nat → Nat → Int32} {n m k : Nat} {v : Int32} (h : okL G n) (hne : n ≠ m) : okL (g2 G m k v) n := okL_of h (g2_ne G k v hne)
theorem has_in {n : Nat} {x : Int32} {G : Nat → Nat → Int32} (hE : okL G n) (h : ¬ f_L_has n x G = 0) : vp_in x 40 := by
  unfold f_L_has at h
  by_cases h1 : x < 0
  · rw [if_pos h1] at h; exact absurd rfl h
  · rw [if_neg h1] at h
    by_cases h2 : G n 2 ≤ x
    · rw [if_pos h2] at h; exact absurd rfl h
    · rw [i_lt, i0] at h1
      rw [i_le] at h2
      rw [vp_in_iff]
      have := hE.2
      omega
theorem full_in {n : Nat} {G : Nat → Nat → Int32} (hE : okL G n) (h : f_L_isFull n G = 0) : vp_in (G n 2) 40 := by
  unfold f_L_isFull at h
  by_cases h1 : G n 2 < 40
  · rw [i_lt, i40] at h1
    rw [vp_in_iff]
    have := hE.1
    omega
  · rw [if_neg h1] at h
    exact absurd h (by decide)
theorem cu_lt {n : Nat} {v : Int32} {G : Nat → Nat → Int32} (hE : okL G n) (h : ¬ G n 2 ≤ v) : ¬ (41 : Int32) ≤ v := by
  rw [i_le] at h
  rw [i_le, i41]
  have := hE.2
  omega
def f_L_stampOf (n : Nat) (x1 : Int32) (G : Nat → Nat → Int32) : Int32 := (if ((f_L_has n x1 G)) = 0 then 0 else (G (n + 4) x1.toNatClampNeg))
theorem e_L_stampOf : y_L_stampOf.cls ≠ "java/lang/invoke/MethodHandle" ∧ y_L_stampOf.cls ≠ "java/lang/invoke/VarHandle" ∧ (parseMethodDescriptor y_L_stampOf.desc).map (fun d => d.parameters.length) = some 1 := by decide +kernel
set_option maxHeartbeats 4000000 in
set_option maxRecDepth 100000 in
theorem m_L_stampOf (l : Launch) (D : va_G) (cI cZ cB cM : ClassId) (a : Nat → Nat) (hJ : xJ 56 a) (P : Nat → Nat) (G : Nat → Nat → Int32) (n : Nat) (n_1 : 6 ≤ n) (n_2 : n < 10) (x1 : Int32) (hE : okL G n) : Met l y_L_stampOf (Cond.code y_L_stampOf prog_5_method_5_code 2 (Option.some FieldType.int) :: wsBig) { frames := 1, cells := 0, slots := 0, locals := 21 } (xP D xcl (xty cI cZ cB cM) 56 a (kg (kC cI cB cM a P) G) [.ref (a n), .int x1]) (xQi D xcl 56 a (f_L_stampOf n x1 G) (kg (kC cI cB cM a P) G)) 0 0 (xA 56 a) := by
  refine X_met (by decide) rfl (Nat.le_of_ble_eq_true rfl) hJ (fun Y s m args Γ => ?_)
  show X Y s m D xcl 56 a 2 (kg (kC cI cB cM a P) G) 0 [(0, .ref (a n)), (1, .int x1)] []
  have E := f_L_stampOf.eq_1 n x1 G
  refine X_aload_n Γ d_L_stampOf_0 rfl 0 rfl rfl ?_
  refine X_iload_n Γ d_L_stampOf_1 rfl 1 rfl rfl ?_
  refine X_callVi (rest := []) Γ d_L_stampOf_2 (m_L_has l D cI cZ cB cM a hJ P G n n_1 n_2 x1) (Nat.lt_of_lt_of_le n_2 (by decide : 10 ≤ 56)) (kC_L n_1 n_2) rfl rfl w280 w270 s_L_has w7 w271 e_L_has ⟨by decide, by decide⟩ ⟨rfl, rfl⟩ rfl rfl (Nat.le_of_ble_eq_true rfl) rfl ?_
  refine X_if_eq (tgt := 17) Γ d_L_stampOf_5 (by decide) rfl (fun h5 => ?_) (fun h5 => ?_)
  · replace E := E.trans (if_pos h5)
    refine X_iconst (v := 0) Γ d_L_stampOf_17 (by decide) rfl ?_
    exact X_ireti Γ d_L_stampOf_18 E.symm rfl
  · replace E := E.trans (if_neg h5)
    refine X_aload_n Γ d_L_stampOf_8 rfl 0 rfl rfl ?_
    refine X_get Γ d_L_stampOf_9 (Nat.lt_of_lt_of_le n_2 (by decide : 10 ≤ 56)) (kC_L n_1 n_2) rfl in_L 0 (by decide) w133 rfl rfl rfl ?_
    refine X_iload_n Γ d_L_stampOf_12 rfl 1 rfl rfl ?_
    refine X_iald (v := (G (n + 4) x1.toNatClampNeg)) Γ d_L_stampOf_13 (Nat.lt_of_lt_of_le (Nat.lt_of_lt_of_le (Nat.add_lt_add_right n_2 4) (by decide : 10 + 4 ≤ 18)) (by decide : 18 ≤ 56)) (kC_A40 (Nat.le_trans (by decide : 10 ≤ 6 + 4) (Nat.add_le_add_right n_1 4)) (Nat.lt_of_lt_of_le (Nat.add_lt_add_right n_2 4) (by decide : 10 + 4 ≤ 18))) 0 rfl (has_in hE h5) rfl rfl ?_
    refine X_goto (pc' := 18) Γ d_L_stampOf_14 (by decide) ?_
    exact X_ireti Γ d_L_stampOf_18 E.symm rfl
def f_L_valueOf (n : Nat) (x1 : Int32) (G : Nat → Nat → Int32) : Int32 := (if ((f_L_has n x1 G)) = 0 then 0 else (G (n + 8) x1.toNatClampNeg))
theorem e_L_valueOf : y_L_valueOf.cls ≠ "java/lang/invoke/MethodHandle" ∧ y_L_valueOf.cls ≠ "java/lang/invoke/VarHandle" ∧ (parseMethodDescriptor y_L_valueOf.desc).map (fun d => d.parameters.length) = some 1 := by decide +kernel
set_option maxHeartbeats 4000000 in
set_option maxRecDepth 100000 in
theorem m_L_valueOf (l : Launch) (D : va_G) (cI cZ cB cM : ClassId) (a : Nat → Nat) (hJ : xJ 56 a) (P : Nat → Nat) (G : Nat → Nat → Int32) (n : Nat) (n_1 : 6 ≤ n) (n_2 : n < 10) (x1 : Int32) (hE : okL G n) : Met l y_L_valueOf (Cond.code y_L_valueOf prog_5_method_7_code 2 (Option.some FieldType.int) :: wsBig) { frames := 1, cells := 0, slots := 0, locals := 21 } (xP D xcl (xty cI cZ cB cM) 56 a (kg (kC cI cB cM a P) G) [.ref (a n), .int x1]) (xQi D xcl 56 a (f_L_valueOf n x1 G) (kg (kC cI cB cM a P) G)) 0 0 (xA 56 a) := by
  refine X_met (by decide) rfl (Nat.le_of_ble_eq_true rfl) hJ (fun Y s m args Γ => ?_)
  show X Y s m D xcl 56 a 2 (kg (kC cI cB cM a P) G) 0 [(0, .ref (a n)), (1, .int x1)] []
  have E := f_L_valueOf.eq_1 n x1 G
  refine X_aload_n Γ d_L_valueOf_0 rfl 0 rfl rfl ?_
  refine X_iload_n Γ d_L_valueOf_1 rfl 1 rfl rfl ?_
  refine X_callVi (rest := []) Γ d_L_valueOf_2 (m_L_has l D cI cZ cB cM a hJ P G n n_1 n_2 x1) (Nat.lt_of_lt_of_le n_2 (by decide : 10 ≤ 56)) (kC_L n_1 n_2) rfl rfl w280 w270 s_L_has w7 w271 e_L_has ⟨by decide, by decide⟩ ⟨rfl, rfl⟩ rfl rfl (Nat.le_of_ble_eq_true rfl) rfl ?_
  refine X_if_eq (tgt := 17) Γ d_L_valueOf_5 (by decide) rfl (fun h5 => ?_) (fun h5 => ?_)
  · replace E := E.trans (if_pos h5)
    refine X_iconst (v := 0) Γ d_L_valueOf_17 (by decide) rfl ?_
    exact X_ireti Γ d_L_valueOf_18 E.symm rfl
  · replace E := E.trans (if_neg h5)
    refine X_aload_n Γ d_L_valueOf_8 rfl 0 rfl rfl ?_
    refine X_get Γ d_L_valueOf_9 (Nat.lt_of_lt_of_le n_2 (by decide : 10 ≤ 56)) (kC_L n_1 n_2) rfl in_L 1 (by decide) w134 rfl rfl rfl ?_
    refine X_iload_n Γ d_L_valueOf_12 rfl 1 rfl rfl ?_
    refine X_iald (v := (G (n + 8) x1.toNatClampNeg)) Γ d_L_valueOf_13 (Nat.lt_of_lt_of_le (Nat.lt_of_lt_of_le (Nat.add_lt_add_right n_2 8) (by decide : 10 + 8 ≤ 18)) (by decide : 18 ≤ 56)) (kC_A40 (Nat.le_trans (by decide : 10 ≤ 6 + 8) (Nat.add_le_add_right n_1 8)) (Nat.lt_of_lt_of_le (Nat.add_lt_add_right n_2 8) (by decide : 10 + 8 ≤ 18))) 0 rfl (has_in hE h5) rfl rfl ?_
    refine X_goto (pc' := 18) Γ d_L_valueOf_14 (by decide) ?_
    exact X_ireti Γ d_L_valueOf_18 E.symm rfl
def f_L_isMark (n : Nat) (x1 : Int32) (G : Nat → Nat → Int32) : Int32 := (if 0 ≤ ((f_L_stampOf n x1 G)) then 0 else 1)
theorem e_L_isMark : y_L_isMark.cls ≠ "java/lang/invoke/MethodHandle" ∧ y_L_isMark.cls ≠ "java/lang/invoke/VarHandle" ∧ (parseMethodDescriptor y_L_isMark.desc).map (fun d => d.parameters.length) = some 1 := by decide +kernel
set_option maxHeartbeats 4000000 in
set_option maxRecDepth 100000 in
theorem m_L_isMark (l : Launch) (D : va_G) (cI cZ cB cM : ClassId) (a : Nat → Nat) (hJ : xJ 56 a) (P : Nat → Nat) (G : Nat → Nat → Int32) (n : Nat) (n_1 : 6 ≤ n) (n_2 : n < 10) (x1 : Int32) (hE : okL G n) : Met l y_L_isMark (Cond.code y_L_isMark prog_5_method_4_code 2 (Option.some FieldType.boolean) :: wsBig) { frames := 2, cells := 0, slots := 0, locals := 42 } (xP D xcl (xty cI cZ cB cM) 56 a (kg (kC cI cB cM a P) G) [.ref (a n), .int x1]) (xQi D xcl 56 a (f_L_isMark n x1 G) (kg (kC cI cB cM a P) G)) 0 0 (xA 56 a) := by
  refine X_met (by decide) rfl (Nat.le_of_ble_eq_true rfl) hJ (fun Y s m args Γ => ?_)
  show X Y s m D xcl 56 a 2 (kg (kC cI cB cM a P) G) 0 [(0, .ref (a n)), (1, .int x1)] []
  have E := f_L_isMark.eq_1 n x1 G
  refine X_aload_n Γ d_L_isMark_0 rfl 0 rfl rfl ?_
  refine X_iload_n Γ d_L_isMark_1 rfl 1 rfl rfl ?_
  refine X_callVi (rest := []) Γ d_L_isMark_2 (m_L_stampOf l D cI cZ cB cM a hJ P G n n_1 n_2 x1 hE) (Nat.lt_of_lt_of_le n_2 (by decide : 10 ≤ 56)) (kC_L n_1 n_2) rfl rfl w276 w278 s_L_stampOf w7 w279 e_L_stampOf ⟨by decide, by decide⟩ ⟨rfl, rfl⟩ rfl rfl (Nat.le_of_ble_eq_true rfl) rfl ?_
  refine X_if_ge (tgt := 12) Γ d_L_isMark_5 (by decide) rfl (fun h5 => ?_) (fun h5 => ?_)
  · replace E := E.trans (if_pos h5)
    refine X_iconst (v := 0) Γ d_L_isMark_12 (by decide) rfl ?_
    exact X_iretz Γ d_L_isMark_13 rfl E.symm rfl
  · replace E := E.trans (if_neg h5)
    refine X_iconst (v := 1) Γ d_L_isMark_8 (by decide) rfl ?_
    refine X_goto (pc' := 13) Γ d_L_isMark_9 (by decide) ?_
    exact X_iretz Γ d_L_isMark_13 rfl E.symm rfl
def f_L_epochOf (n : Nat) (x1 : Int32) (G : Nat → Nat → Int32) : Int32 := (if 0 ≤ ((f_L_stampOf n x1 G)) then ((f_L_stampOf n x1 G)) else 0 - ((f_L_stampOf n x1 G)))
theorem e_L_epochOf : y_L_epochOf.cls ≠ "java/lang/invoke/MethodHandle" ∧ y_L_epochOf.cls ≠ "java/lang/invoke/VarHandle" ∧ (parseMethodDescriptor y_L_epochOf.desc).map (fun d => d.parameters.length) = some 1 := by decide +kernel
set_option maxHeartbeats 4000000 in
set_option maxRecDepth 100000 in
theorem m_L_epochOf (l : Launch) (D : va_G) (cI cZ cB cM : ClassId) (a : Nat → Nat) (hJ : xJ 56 a) (P : Nat → Nat) (G : Nat → Nat → Int32) (n : Nat) (n_1 : 6 ≤ n) (n_2 : n < 10) (x1 : Int32) (hE : okL G n) : Met l y_L_epochOf (Cond.code y_L_epochOf prog_5_method_6_code 2 (Option.some FieldType.int) :: wsBig) { frames := 2, cells := 0, slots := 0, locals := 42 } (xP D xcl (xty cI cZ cB cM) 56 a (kg (kC cI cB cM a P) G) [.ref (a n), .int x1]) (xQi D xcl 56 a (f_L_epochOf n x1 G) (kg (kC cI cB cM a P) G)) 0 0 (xA 56 a) := by
  refine X_met (by decide) rfl (Nat.le_of_ble_eq_true rfl) hJ (fun Y s m args Γ => ?_)
  show X Y s m D xcl 56 a 2 (kg (kC cI cB cM a P) G) 0 [(0, .ref (a n)), (1, .int x1)] []
  have E := f_L_epochOf.eq_1 n x1 G
  refine X_aload_n Γ d_L_epochOf_0 rfl 0 rfl rfl ?_
  refine X_iload_n Γ d_L_epochOf_1 rfl 1 rfl rfl ?_
  refine X_callVi (rest := []) Γ d_L_epochOf_2 (m_L_stampOf l D cI cZ cB cM a hJ P G n n_1 n_2 x1 hE) (Nat.lt_of_lt_of_le n_2 (by decide : 10 ≤ 56)) (kC_L n_1 n_2) rfl rfl w276 w278 s_L_stampOf w7 w279 e_L_stampOf ⟨by decide, by decide⟩ ⟨rfl, rfl⟩ rfl rfl (Nat.le_of_ble_eq_true rfl) rfl ?_
  refine X_mabs Γ d_L_epochOf_5 w305 w306 w2 w307 (by decide) (Nat.le_of_ble_eq_true rfl) rfl ?_
  exact X_ireti Γ d_L_epochOf_8 E.symm rfl
def f_L_lastEpoch (n : Nat) (G : Nat → Nat → Int32) : Int32 := ((f_L_epochOf n ((G n 2) - 1) G))
theorem e_L_lastEpoch : y_L_lastEpoch.cls ≠ "java/lang/invoke/MethodHandle" ∧ y_L_lastEpoch.cls ≠ "java/lang/invoke/VarHandle" ∧ (parseMethodDescriptor y_L_lastEpoch.desc).map (fun d => d.parameters.length) = some 0 := by decide +kernel
set_option maxHeartbeats 4000000 in
set_option maxRecDepth 100000 in
theorem m_L_lastEpoch (l : Launch) (D : va_G) (cI cZ cB cM : ClassId) (a : Nat → Nat) (hJ : xJ 56 a) (P : Nat → Nat) (G : Nat → Nat → Int32) (n : Nat) (n_1 : 6 ≤ n) (n_2 : n < 10) (hE : okL G n) : Met l y_L_lastEpoch (Cond.code y_L_lastEpoch prog_5_method_8_code 1 (Option.some FieldType.int) :: wsBig) { frames := 3, cells := 0, slots := 0, locals := 63 } (xP D xcl (xty cI cZ cB cM) 56 a (kg (kC cI cB cM a P) G) [.ref (a n)]) (xQi D xcl 56 a (f_L_lastEpoch n G) (kg (kC cI cB cM a P) G)) 0 0 (xA 56 a) := by
  refine X_met (by decide) rfl (Nat.le_of_ble_eq_true rfl) hJ (fun Y s m args Γ => ?_)
  show X Y s m D xcl 56 a 1 (kg (kC cI cB cM a P) G) 0 [(0, .ref (a n))] []
  have E := f_L_lastEpoch.eq_1 n G
  refine X_aload_n Γ d_L_lastEpoch_0 rfl 0 rfl rfl ?_
  refine X_aload_n Γ d_L_lastEpoch_1 rfl 0 rfl rfl ?_
  refine X_get Γ d_L_lastEpoch_2 (Nat.lt_of_lt_of_le n_2 (by decide : 10 ≤ 56)) (kC_L n_1 n_2) rfl in_L 2 (by decide) w135 rfl rfl rfl ?_
  refine X_iconst (v := 1) Γ d_L_lastEpoch_5 (by decide) rfl ?_
  refine X_isub Γ d_L_lastEpoch_6 rfl ?_
  refine X_callVi (rest := []) Γ d_L_lastEpoch_7 (m_L_epochOf l D cI cZ cB cM a hJ P G n n_1 n_2 ((G n 2) - 1) hE) (Nat.lt_of_lt_of_le n_2 (by decide : 10 ≤ 56)) (kC_L n_1 n_2) rfl rfl w301 w303 s_L_epochOf w7 w304 e_L_epochOf ⟨by decide, by decide⟩ ⟨rfl, rfl⟩ rfl rfl (Nat.le_of_ble_eq_true rfl) rfl ?_
  exact X_ireti Γ d_L_lastEpoch_10 E.symm rfl
def f_L_add (n : Nat) (x1 : Int32) (x2 : Int32) (G : Nat → Nat → Int32) : (Nat → Nat → Int32) := (if ((f_L_isFull n G)) = 0 then (g2 (g2 (g2 G (n + 4) (G n 2).toNatClampNeg x1) (n + 8) ((g2 G (n + 4) (G n 2).toNatClampNeg x1) n 2).toNatClampNeg x2) n 2 (((g2 (g2 G (n + 4) (G n 2).toNatClampNeg x1) (n + 8) ((g2 G (n + 4) (G n 2).toNatClampNeg x1) n 2).toNatClampNeg x2) n 2) + 1)) else G)
theorem e_L_add : y_L_add.cls ≠ "java/lang/invoke/MethodHandle" ∧ y_L_add.cls ≠ "java/lang/invoke/VarHandle" ∧ (parseMethodDescriptor y_L_add.desc).map (fun d => d.parameters.length) = some 2 := by decide +kernel
set_option maxHeartbeats 4000000 in
set_option maxRecDepth 100000 in
theorem m_L_add (l : Launch) (D : va_G) (cI cZ cB cM : ClassId) (a : Nat → Nat) (hJ : xJ 56 a) (P : Nat → Nat) (G : Nat → Nat → Int32) (n : Nat) (n_1 : 6 ≤ n) (n_2 : n < 10) (x1 : Int32) (x2 : Int32) (hE : okL G n) : Met l y_L_add (Cond.code y_L_add prog_5_method_9_code 3 (Option.none : Option FieldType) :: wsBig) { frames := 1, cells := 0, slots := 0, locals := 20 } (xP D xcl (xty cI cZ cB cM) 56 a (kg (kC cI cB cM a P) G) [.ref (a n), .int x1, .int x2]) (xQv D xcl 56 a (kg (kC cI cB cM a P) (f_L_add n x1 x2 G))) 0 0 (xA 56 a) := by
  refine X_met (by decide) rfl (Nat.le_of_ble_eq_true rfl) hJ (fun Y s m args Γ => ?_)
  show X Y s m D xcl 56 a 3 (kg (kC cI cB cM a P) G) 0 [(0, .ref (a n)), (1, .int x1), (2, .int x2)] []
  have E := f_L_add.eq_1 n x1 x2 G
  refine X_aload_n Γ d_L_add_0 rfl 0 rfl rfl ?_
  refine X_callVi (rest := []) Γ d_L_add_1 (m_L_isFull l D cI cZ cB cM a hJ P G n n_1 n_2) (Nat.lt_of_lt_of_le n_2 (by decide : 10 ≤ 56)) (kC_L n_1 n_2) rfl rfl w250 w238 s_L_isFull w7 w239 e_L_isFull ⟨by decide, by decide⟩ ⟨rfl, rfl⟩ rfl rfl (Nat.le_of_ble_eq_true rfl) rfl ?_
  refine X_if_eq (tgt := 8) Γ d_L_add_4 (by decide) rfl (fun h4 => ?_) (fun h4 => ?_)
  · replace E := E.trans (if_pos h4)
    refine X_aload_n Γ d_L_add_8 rfl 0 rfl rfl ?_
    refine X_get Γ d_L_add_9 (Nat.lt_of_lt_of_le n_2 (by decide : 10 ≤ 56)) (kC_L n_1 n_2) rfl in_L 0 (by decide) w133 rfl rfl rfl ?_
    refine X_aload_n Γ d_L_add_12 rfl 0 rfl rfl ?_
    refine X_get Γ d_L_add_13 (Nat.lt_of_lt_of_le n_2 (by decide : 10 ≤ 56)) (kC_L n_1 n_2) rfl in_L 2 (by decide) w135 rfl rfl rfl ?_
    refine X_iload_n Γ d_L_add_16 rfl 1 rfl rfl ?_
    refine X_iast (kx := (G n 2).toNatClampNeg) Γ d_L_add_17 (Nat.lt_of_lt_of_le (Nat.lt_of_lt_of_le (Nat.add_lt_add_right n_2 4) (by decide : 10 + 4 ≤ 18)) (by decide : 18 ≤ 56)) (kC_A40 (Nat.le_trans (by decide : 10 ≤ 6 + 4) (Nat.add_le_add_right n_1 4)) (Nat.lt_of_lt_of_le (Nat.add_lt_add_right n_2 4) (by decide : 10 + 4 ≤ 18))) 0 rfl (full_in hE h4) (fun _ => (kC_A40 (Nat.le_trans (by decide : 10 ≤ 6 + 4) (Nat.add_le_add_right n_1 4)) (Nat.lt_of_lt_of_le (Nat.add_lt_add_right n_2 4) (by decide : 10 + 4 ≤ 18)))) rfl rfl ?_
    refine X_aload_n Γ d_L_add_18 rfl 0 rfl rfl ?_
    refine X_get Γ d_L_add_19 (Nat.lt_of_lt_of_le n_2 (by decide : 10 ≤ 56)) (kC_L n_1 n_2) rfl in_L 1 (by decide) w134 rfl rfl rfl ?_
    refine X_aload_n Γ d_L_add_22 rfl 0 rfl rfl ?_
    refine X_get Γ d_L_add_23 (Nat.lt_of_lt_of_le n_2 (by decide : 10 ≤ 56)) (kC_L n_1 n_2) rfl in_L 2 (by decide) w135 rfl rfl rfl ?_
    refine X_iload_n Γ d_L_add_26 rfl 2 rfl rfl ?_
    refine X_iast (kx := ((g2 G (n + 4) (G n 2).toNatClampNeg x1) n 2).toNatClampNeg) Γ d_L_add_27 (Nat.lt_of_lt_of_le (Nat.lt_of_lt_of_le (Nat.add_lt_add_right n_2 8) (by decide : 10 + 8 ≤ 18)) (by decide : 18 ≤ 56)) (kC_A40 (Nat.le_trans (by decide : 10 ≤ 6 + 8) (Nat.add_le_add_right n_1 8)) (Nat.lt_of_lt_of_le (Nat.add_lt_add_right n_2 8) (by decide : 10 + 8 ≤ 18))) 0 rfl (by rw [g2_ne _ _ _ (by omega)]; exact full_in hE h4) (fun _ => (kC_A40 (Nat.le_trans (by decide : 10 ≤ 6 + 8) (Nat.add_le_add_right n_1 8)) (Nat.lt_of_lt_of_le (Nat.add_lt_add_right n_2 8) (by decide : 10 + 8 ≤ 18)))) rfl rfl ?_
    refine X_aload_n Γ d_L_add_28 rfl 0 rfl rfl ?_
    refine X_dup Γ d_L_add_29 rfl rfl ?_
    refine X_get Γ d_L_add_30 (Nat.lt_of_lt_of_le n_2 (by decide : 10 ≤ 56)) (kC_L n_1 n_2) rfl in_L 2 (by decide) w135 rfl rfl rfl ?_
    refine X_iconst (v := 1) Γ d_L_add_33 (by decide) rfl ?_
    refine X_iadd Γ d_L_add_34 rfl ?_
    refine X_put (ty := .int) Γ d_L_add_35 (Nat.lt_of_lt_of_le n_2 (by decide : 10 ≤ 56)) (kC_L n_1 n_2) rfl in_L 2 (by decide) w135 rfl ty_L ty_L_ok nm_L rfl (by decide +kernel) rfl rfl (Nat.le_of_ble_eq_true rfl) (kp_L_2 n_1 n_2) rfl ?_
    exact X_vret Γ d_L_add_38 (gv_eq E)
  · replace E := E.trans (if_neg h4)
    exact X_vret Γ d_L_add_7 (gv_eq E)
def f_L_cutTo (n : Nat) (x1 : Int32) (G : Nat → Nat → Int32) : (Nat → Nat → Int32) := (g2 G n 2 (if x1 < (G n 2) then x1 else (G n 2)))
theorem e_L_cutTo : y_L_cutTo.cls ≠ "java/lang/invoke/MethodHandle" ∧ y_L_cutTo.cls ≠ "java/lang/invoke/VarHandle" ∧ (parseMethodDescriptor y_L_cutTo.desc).map (fun d => d.parameters.length) = some 1 := by decide +kernel
set_option maxHeartbeats 4000000 in
set_option maxRecDepth 100000 in
theorem m_L_cutTo (l : Launch) (D : va_G) (cI cZ cB cM : ClassId) (a : Nat → Nat) (hJ : xJ 56 a) (P : Nat → Nat) (G : Nat → Nat → Int32) (n : Nat) (n_1 : 6 ≤ n) (n_2 : n < 10) (x1 : Int32) : Met l y_L_cutTo (Cond.code y_L_cutTo prog_5_method_10_code 2 (Option.none : Option FieldType) :: wsBig) { frames := 1, cells := 0, slots := 0, locals := 21 } (xP D xcl (xty cI cZ cB cM) 56 a (kg (kC cI cB cM a P) G) [.ref (a n), .int x1]) (xQv D xcl 56 a (kg (kC cI cB cM a P) (f_L_cutTo n x1 G))) 0 0 (xA 56 a) := by
  refine X_met (by decide) rfl (Nat.le_of_ble_eq_true rfl) hJ (fun Y s m args Γ => ?_)
  show X Y s m D xcl 56 a 2 (kg (kC cI cB cM a P) G) 0 [(0, .ref (a n)), (1, .int x1)] []
  have E := f_L_cutTo.eq_1 n x1 G
  refine X_aload_n Γ d_L_cutTo_0 rfl 0 rfl rfl ?_
  refine X_aload_n Γ d_L_cutTo_1 rfl 0 rfl rfl ?_
  refine X_get Γ d_L_cutTo_2 (Nat.lt_of_lt_of_le n_2 (by decide : 10 ≤ 56)) (kC_L n_1 n_2) rfl in_L 2 (by decide) w135 rfl rfl rfl ?_
  refine X_iload_n Γ d_L_cutTo_5 rfl 1 rfl rfl ?_
  refine X_mmin Γ d_L_cutTo_6 w370 w23 w2 w24 (by decide) (Nat.le_of_ble_eq_true rfl) rfl ?_
  refine X_put (ty := .int) Γ d_L_cutTo_9 (Nat.lt_of_lt_of_le n_2 (by decide : 10 ≤ 56)) (kC_L n_1 n_2) rfl in_L 2 (by decide) w135 rfl ty_L ty_L_ok nm_L rfl (by decide +kernel) rfl rfl (Nat.le_of_ble_eq_true rfl) (kp_L_2 n_1 n_2) rfl ?_
  exact X_vret Γ d_L_cutTo_12 (gv_eq E)
def f_L_continues (n : Nat) (x1 : Int32) (x2 : Int32) (G : Nat → Nat → Int32) : Int32 := (if x1 = 0 then 1 else (if (G n 2) < x1 then 0 else (if ((f_L_epochOf n (x1 - 1) G)) = x2 then 1 else 0)))
theorem e_L_continues : y_L_continues.cls ≠ "java/lang/invoke/MethodHandle" ∧ y_L_continues.cls ≠ "java/lang/invoke/VarHandle" ∧ (parseMethodDescriptor y_L_continues.desc).map (fun d => d.parameters.length) = some 2 := by decide +kernel
set_option maxHeartbeats 4000000 in
set_option maxRecDepth 100000 in
theorem m_L_continues (l : Launch) (D : va_G) (cI cZ cB cM : ClassId) (a : Nat → Nat) (hJ : xJ 56 a) (P : Nat → Nat) (G : Nat → Nat → Int32) (n : Nat) (n_1 : 6 ≤ n) (n_2 : n < 10) (x1 : Int32) (x2 : Int32) (hE : okL G n) : Met l y_L_continues (Cond.code y_L_continues prog_5_method_11_code 3 (Option.some FieldType.boolean) :: wsBig) { frames := 3, cells := 0, slots := 0, locals := 63 } (xP D xcl (xty cI cZ cB cM) 56 a (kg (kC cI cB cM a P) G) [.ref (a n), .int x1, .int x2]) (xQi D xcl 56 a (f_L_continues n x1 x2 G) (kg (kC cI cB cM a P) G)) 0 0 (xA 56 a) := by
  refine X_met (by decide) rfl (Nat.le_of_ble_eq_true rfl) hJ (fun Y s m args Γ => ?_)
  show X Y s m D xcl 56 a 3 (kg (kC cI cB cM a P) G) 0 [(0, .ref (a n)), (1, .int x1), (2, .int x2)] []
  have E := f_L_continues.eq_1 n x1 x2 G
  refine X_iload_n Γ d_L_continues_0 rfl 1 rfl rfl ?_
  refine X_if_eq (tgt := 23) Γ d_L_continues_1 (by decide) rfl (fun h1 => ?_) (fun h1 => ?_)
  · replace E := E.trans (if_pos h1)
    refine X_iconst (v := 1) Γ d_L_continues_23 (by decide) rfl ?_
    refine X_goto (pc' := 28) Γ d_L_continues_24 (by decide) ?_
    exact X_iretz Γ d_L_continues_28 rfl E.symm rfl
  · replace E := E.trans (if_neg h1)
    refine X_iload_n Γ d_L_continues_4 rfl 1 rfl rfl ?_
    refine X_aload_n Γ d_L_continues_5 rfl 0 rfl rfl ?_
    refine X_get Γ d_L_continues_6 (Nat.lt_of_lt_of_le n_2 (by decide : 10 ≤ 56)) (kC_L n_1 n_2) rfl in_L 2 (by decide) w135 rfl rfl rfl ?_
    refine X_icmp_gt (tgt := 27) Γ d_L_continues_9 (by decide) rfl (fun h9 => ?_) (fun h9 => ?_)
    · replace E := E.trans (if_pos h9)
      refine X_iconst (v := 0) Γ d_L_continues_27 (by decide) rfl ?_
      exact X_iretz Γ d_L_continues_28 rfl E.symm rfl
    · replace E := E.trans (if_neg h9)
      refine X_aload_n Γ d_L_continues_12 rfl 0 rfl rfl ?_
      refine X_iload_n Γ d_L_continues_13 rfl 1 rfl rfl ?_
      refine X_iconst (v := 1) Γ d_L_continues_14 (by decide) rfl ?_
      refine X_isub Γ d_L_continues_15 rfl ?_
      refine X_callVi (rest := []) Γ d_L_continues_16 (m_L_epochOf l D cI cZ cB cM a hJ P G n n_1 n_2 (x1 - 1) hE) (Nat.lt_of_lt_of_le n_2 (by decide : 10 ≤ 56)) (kC_L n_1 n_2) rfl rfl w301 w303 s_L_epochOf w7 w304 e_L_epochOf ⟨by decide, by decide⟩ ⟨rfl, rfl⟩ rfl rfl (Nat.le_of_ble_eq_true rfl) rfl ?_
      refine X_iload_n Γ d_L_continues_19 rfl 2 rfl rfl ?_
      refine X_icmp_ne (tgt := 27) Γ d_L_continues_20 (by decide) rfl (fun h20 => ?_) (fun h20 => ?_)
      · replace E := E.trans (if_neg h20)
        refine X_iconst (v := 0) Γ d_L_continues_27 (by decide) rfl ?_
        exact X_iretz Γ d_L_continues_28 rfl E.symm rfl
      · replace E := E.trans (if_pos h20)
        refine X_iconst (v := 1) Γ d_L_continues_23 (by decide) rfl ?_
        refine X_goto (pc' := 28) Γ d_L_continues_24 (by decide) ?_
        exact X_iretz Γ d_L_continues_28 rfl E.symm rfl
def f_L_countUpTo_2 (n : Nat) (x1 : Int32) (G : Nat → Nat → Int32) : Nat → Int32 → Int32
  | 0, v2_2 => 0
  | k2 + 1, v2_2 => (if (G n 2) ≤ v2_2 then v2_2 else (if x1 < ((f_L_epochOf n v2_2 G)) then v2_2 else (f_L_countUpTo_2 n x1 G k2 (v2_2 + 1))))
def f_L_countUpTo (n : Nat) (x1 : Int32) (G : Nat → Nat → Int32) : Int32 := (f_L_countUpTo_2 n x1 G 42 0)
theorem e_L_countUpTo : y_L_countUpTo.cls ≠ "java/lang/invoke/MethodHandle" ∧ y_L_countUpTo.cls ≠ "java/lang/invoke/VarHandle" ∧ (parseMethodDescriptor y_L_countUpTo.desc).map (fun d => d.parameters.length) = some 1 := by decide +kernel
set_option maxHeartbeats 4000000 in
set_option maxRecDepth 100000 in
theorem m_L_countUpTo (l : Launch) (D : va_G) (cI cZ cB cM : ClassId) (a : Nat → Nat) (hJ : xJ 56 a) (P : Nat → Nat) (G : Nat → Nat → Int32) (n : Nat) (n_1 : 6 ≤ n) (n_2 : n < 10) (x1 : Int32) (hE : okL G n) : Met l y_L_countUpTo (Cond.code y_L_countUpTo prog_5_method_12_code 3 (Option.some FieldType.int) :: wsBig) { frames := 3, cells := 0, slots := 0, locals := 63 } (xP D xcl (xty cI cZ cB cM) 56 a (kg (kC cI cB cM a P) G) [.ref (a n), .int x1]) (xQi D xcl 56 a (f_L_countUpTo n x1 G) (kg (kC cI cB cM a P) G)) 0 0 (xA 56 a) := by
  refine X_met (by decide) rfl (Nat.le_of_ble_eq_true rfl) hJ (fun Y s m args Γ => ?_)
  show X Y s m D xcl 56 a 3 (kg (kC cI cB cM a P) G) 0 [(0, .ref (a n)), (1, .int x1)] []
  have E := f_L_countUpTo.eq_1 n x1 G
  refine X_iconst (v := 0) Γ d_L_countUpTo_0 (by decide) rfl ?_
  refine X_istore_n Γ d_L_countUpTo_1 rfl (by decide) rfl rfl ?_
  have J2 : ∀ (k2 : Nat) (v2_2 : Int32), (0 < k2 ∧ k2 ≤ 42 ∧ v2_2 = nI (42 - k2)) → f_L_countUpTo n x1 G = f_L_countUpTo_2 n x1 G k2 v2_2 → X Y s m D xcl 56 a 3 (kg (kC cI cB cM a P) G) 2 [(0, .ref (a n)), (1, .int x1), (2, .int v2_2)] [] := by
    intro k2
    induction k2 with
    | zero => exact fun v2_2 hI2 _ => absurd hI2 (fun h => Nat.lt_irrefl 0 h.1)
    | succ k2 ih2 =>
      intro v2_2 hI2 E
      rw [f_L_countUpTo_2] at E
      refine X_iload_n Γ d_L_countUpTo_2 rfl 2 rfl rfl ?_
      refine X_aload_n Γ d_L_countUpTo_3 rfl 0 rfl rfl ?_
      refine X_get Γ d_L_countUpTo_4 (Nat.lt_of_lt_of_le n_2 (by decide : 10 ≤ 56)) (kC_L n_1 n_2) rfl in_L 2 (by decide) w135 rfl rfl rfl ?_
      refine X_icmp_ge (tgt := 25) Γ d_L_countUpTo_7 (by decide) rfl (fun h7 => ?_) (fun h7 => ?_)
      · replace E := E.trans (if_pos h7)
        refine X_iload_n Γ d_L_countUpTo_25 rfl 2 rfl rfl ?_
        exact X_ireti Γ d_L_countUpTo_26 E.symm rfl
      · replace E := E.trans (if_neg h7)
        refine X_aload_n Γ d_L_countUpTo_10 rfl 0 rfl rfl ?_
        refine X_iload_n Γ d_L_countUpTo_11 rfl 2 rfl rfl ?_
        refine X_callVi (rest := []) Γ d_L_countUpTo_12 (m_L_epochOf l D cI cZ cB cM a hJ P G n n_1 n_2 v2_2 hE) (Nat.lt_of_lt_of_le n_2 (by decide : 10 ≤ 56)) (kC_L n_1 n_2) rfl rfl w301 w303 s_L_epochOf w7 w304 e_L_epochOf ⟨by decide, by decide⟩ ⟨rfl, rfl⟩ rfl rfl (Nat.le_of_ble_eq_true rfl) rfl ?_
        refine X_iload_n Γ d_L_countUpTo_15 rfl 1 rfl rfl ?_
        refine X_icmp_gt (tgt := 25) Γ d_L_countUpTo_16 (by decide) rfl (fun h16 => ?_) (fun h16 => ?_)
        · replace E := E.trans (if_pos h16)
          refine X_iload_n Γ d_L_countUpTo_25 rfl 2 rfl rfl ?_
          exact X_ireti Γ d_L_countUpTo_26 E.symm rfl
        · replace E := E.trans (if_neg h16)
          refine X_iinc (v := (v2_2 + 1)) Γ d_L_countUpTo_19 2 rfl rfl (by decide) rfl rfl ?_
          refine X_goto (pc' := 2) Γ d_L_countUpTo_22 (by decide) ?_
          refine X_loc [1, 2, 0] rfl ?_
          exact ih2 (v2_2 + 1) (lc_step (by decide) (by decide) hI2.1 hI2.2.1 hI2.2.2 (cu_lt hE h7)) E
  refine X_loc [1, 2, 0] rfl ?_
  exact J2 42 0 (⟨by decide, by decide, by decide⟩) E
theorem okL_add {n : Nat} {x1 x2 : Int32} {G : Nat → Nat → Int32} (hE : okL G n) : okL (f_L_add n x1 x2 G) n := by
  unfold f_L_add
  by_cases h : f_L_isFull n G = 0
  · have h2 := full_in hE h
    rw [vp_in_iff] at h2
    first | rw [if_pos h] | simp only [h, if_true]
    unfold okL
    rw [g2_at, g2_ne _ _ _ (by omega), g2_ne _ _ _ (by omega)]
    rw [i_add (by rw [i1]; omega) (by rw [i1]; omega), i1]
    omega
  · first | rw [if_neg h] | simp only [h, if_false]
    exact hE
/-- rows that a log's method leaves alone -/
theorem add_ne {n i : Nat} {x1 x2 : Int32} {G : Nat → Nat → Int32} (h0 : i ≠ n) (h1 : i ≠ n + 4) (h2 : i ≠ n + 8) : f_L_add n x1 x2 G i = G i := by
  unfold f_L_add
  by_cases h : f_L_isFull n G = 0
  · first | rw [if_pos h] | simp only [h, if_true]
    rw [g2_ne _ _ _ h0, g2_ne _ _ _ h2, g2_ne _ _ _ h1]
  · first | rw [if_neg h] | simp only [h, if_false]
