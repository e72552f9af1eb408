/-! Numbers: counting loops, switches, small facts of Int32. -/
theorem i_sub {a b : Int32} (h1 : -2147483648 ≤ a.toInt - b.toInt) (h2 : a.toInt - b.toInt < 2147483648) : (a - b).toInt = a.toInt - b.toInt := by
  rw [Int32.toInt_sub]
  exact Int.bmod_eq_of_le (by omega) (by omega)
theorem i_add {a b : Int32} (h1 : -2147483648 ≤ a.toInt + b.toInt) (h2 : a.toInt + b.toInt < 2147483648) : (a + b).toInt = a.toInt + b.toInt := by
  rw [Int32.toInt_add]
  exact Int.bmod_eq_of_le (by omega) (by omega)
theorem i_lt {a b : Int32} : a < b ↔ a.toInt < b.toInt := Int32.lt_iff_toInt_lt
theorem i_le {a b : Int32} : a ≤ b ↔ a.toInt ≤ b.toInt := Int32.le_iff_toInt_le
theorem i0 : (0 : Int32).toInt = 0 := by decide
theorem i1 : (1 : Int32).toInt = 1 := by decide
theorem im1 : (-1 : Int32).toInt = -1 := by decide
theorem i3 : (3 : Int32).toInt = 3 := by decide
theorem i4 : (4 : Int32).toInt = 4 := by decide
theorem i8 : (8 : Int32).toInt = 8 := by decide
theorem i40 : (40 : Int32).toInt = 40 := by decide
theorem i41 : (41 : Int32).toInt = 41 := by decide
/-- up: k goes from c down to 1, v = c - k, the loop ends at c - 1 -/
theorem lc_lt {c k : Nat} {v b : Int32} (hc : c < 1000) (hb : b = nI (c - 1)) (h1 : k + 1 ≤ c) (hv : v = nI (c - (k + 1))) (h : ¬ b ≤ v) : 0 < k := by
  subst hb; subst hv
  have h2 : ¬ (c - 1 ≤ c - (k + 1)) := fun q => h ((nI_leI (by omega) (by omega)).mpr q)
  omega
theorem lc_step {c k : Nat} {v b : Int32} (hc : c < 1000) (hb : b = nI (c - 1)) (_h0 : 0 < k + 1) (h1 : k + 1 ≤ c) (hv : v = nI (c - (k + 1))) (h : ¬ b ≤ v) : 0 < k ∧ k ≤ c ∧ v + 1 = nI (c - k) := by
  have h0 := lc_lt hc hb h1 hv h
  refine ⟨h0, by omega, ?_⟩
  rw [hv, nI_1, show c - (k + 1) + 1 = c - k by omega]
theorem lc_in {c k : Nat} {v b : Int32} (hc : c < 1000) (hb : b = nI (c - 1)) (h1 : k + 1 ≤ c) (hv : v = nI (c - (k + 1))) (h : ¬ b ≤ v) : vp_in v (c - 1) := by
  have h0 := lc_lt hc hb h1 hv h
  rw [hv]
  exact vp_in_nI (by omega) (by omega)
/-- down: k goes from c down to 1, v = k - 2, the loop ends below 0 -/
theorem ld_lt {k : Nat} {v : Int32} (hv : v = nI (k + 1 - 1) - 1) (h : ¬ v < 0) : 0 < k := by
  rcases Nat.eq_zero_or_pos k with h0 | h0
  · subst h0
    exact absurd (by rw [hv]; decide) h
  · exact h0
theorem ld_step {c k : Nat} {v : Int32} (_hc : c < 1000) (_ht : True) (_h0 : 0 < k + 1) (h1 : k + 1 ≤ c) (hv : v = nI (k + 1 - 1) - 1) (h : ¬ v < 0) : 0 < k ∧ k ≤ c ∧ v + (-1) = nI (k - 1) - 1 := by
  have h0 := ld_lt hv h
  obtain ⟨j, rfl⟩ : ∃ j, k = j + 1 := ⟨k - 1, by omega⟩
  refine ⟨h0, by omega, ?_⟩
  rw [hv, show j + 1 + 1 - 1 = j + 1 by omega, nI_pred, show j + 1 - 1 = j by omega, Int32.sub_eq_add_neg]
theorem ld_in {c k : Nat} {v : Int32} (hc : c < 1000) (_ht : True) (h1 : k + 1 ≤ c) (hv : v = nI (k + 1 - 1) - 1) (h : ¬ v < 0) : vp_in v (c - 1) := by
  have h0 := ld_lt hv h
  obtain ⟨j, rfl⟩ : ∃ j, k = j + 1 := ⟨k - 1, by omega⟩
  rw [hv, show j + 1 + 1 - 1 = j + 1 by omega, nI_pred]
  exact vp_in_nI (by omega) (by omega)
theorem fl_lt {len k : Nat} {v : Int32} (hl : len < 1000) (hI : 0 < k + 1 ∧ k + 1 ≤ len + 1 ∧ v = nI (len + 1 - (k + 1))) (h : ¬ nI len ≤ v) : 0 < k := by
  obtain ⟨_, h1, rfl⟩ := hI
  have h2 : ¬ (len ≤ len + 1 - (k + 1)) := fun q => h ((nI_leI (by omega) (by omega)).mpr q)
  omega
theorem fl_step {len k : Nat} {v : Int32} (hl : len < 1000) (hI : 0 < k + 1 ∧ k + 1 ≤ len + 1 ∧ v = nI (len + 1 - (k + 1))) (h : ¬ nI len ≤ v) : 0 < k ∧ k ≤ len + 1 ∧ v + 1 = nI (len + 1 - k) := by
  have h0 := fl_lt hl hI h
  refine ⟨h0, by omega, ?_⟩
  rw [hI.2.2, nI_1, show len + 1 - (k + 1) + 1 = len + 1 - k by omega]
theorem fl_in {len k : Nat} {v : Int32} (hl : len < 1000) (hI : 0 < k + 1 ∧ k + 1 ≤ len + 1 ∧ v = nI (len + 1 - (k + 1))) (h : ¬ nI len ≤ v) : vp_in v len := by
  have h0 := fl_lt hl hI h
  rw [hI.2.2]
  exact vp_in_nI (by omega) (by omega)
theorem tb_0_2 {x : Int32} (h0 : ¬ x = 0) (h1 : ¬ x = 1) (h2 : ¬ x = 2) : x.toInt < 0 ∨ 2 < x.toInt := by
  have a0 := lv_neT h0 (a := 0) (by decide)
  have a1 := lv_neT h1 (a := 1) (by decide)
  have a2 := lv_neT h2 (a := 2) (by decide)
  omega
theorem tb_0_6 {x : Int32} (h0 : ¬ x = 0) (h1 : ¬ x = 1) (h2 : ¬ x = 2) (h3 : ¬ x = 3) (h4 : ¬ x = 4) (h5 : ¬ x = 5) (h6 : ¬ x = 6) : x.toInt < 0 ∨ 6 < x.toInt := by
  have a0 := lv_neT h0 (a := 0) (by decide)
  have a1 := lv_neT h1 (a := 1) (by decide)
  have a2 := lv_neT h2 (a := 2) (by decide)
  have a3 := lv_neT h3 (a := 3) (by decide)
  have a4 := lv_neT h4 (a := 4) (by decide)
  have a5 := lv_neT h5 (a := 5) (by decide)
  have a6 := lv_neT h6 (a := 6) (by decide)
  omega
theorem in8_9 : vp_in 8 9 := by
  rw [vp_in_iff, i8]
  omega
def f_I_isBroker (x1 : Int32) : Int32 := (if x1 < 0 then 0 else (if 4 ≤ x1 then 0 else 1))
theorem e_I_isBroker : y_I_isBroker.cls ≠ "java/lang/invoke/MethodHandle" ∧ y_I_isBroker.cls ≠ "java/lang/invoke/VarHandle" ∧ (parseMethodDescriptor y_I_isBroker.desc).map (fun d => d.parameters.length) = some 1 := by decide +kernel
set_option maxHeartbeats 4000000 in
set_option maxRecDepth 100000 in
theorem m_I_isBroker (l : Launch) (D : va_G) (cl : List vw_C) (tys : List (ClassId × FieldType)) (N : Nat) (a : Nat → Nat) (hJ : xJ N a) (K : Nat → (Nat → Int32) → va_E) (G : Nat → Nat → Int32) (x1 : Int32) : Met l y_I_isBroker (Cond.code y_I_isBroker prog_1_method_22_code 1 (Option.some FieldType.boolean) :: wsBig) { frames := 0, cells := 0, slots := 0, locals := 0 } (xP D cl tys N a (kg K G) [.int x1]) (xQi D cl N a (f_I_isBroker x1) (kg K G)) 0 0 (xA N a) := by
  refine X_met (by decide) rfl (Nat.le_of_ble_eq_true rfl) hJ (fun Y s m args Γ => ?_)
  show X Y s m D cl N a 1 (kg K G) 0 [(0, .int x1)] []
  have E := f_I_isBroker.eq_1 x1
  refine X_iload_n Γ d_I_isBroker_0 rfl 0 rfl rfl ?_
  refine X_if_lt (tgt := 13) Γ d_I_isBroker_1 (by decide) rfl (fun h1 => ?_) (fun h1 => ?_)
  · replace E := E.trans (if_pos h1)
    refine X_iconst (v := 0) Γ d_I_isBroker_13 (by decide) rfl ?_
    exact X_iretz Γ d_I_isBroker_14 rfl E.symm rfl
  · replace E := E.trans (if_neg h1)
    refine X_iload_n Γ d_I_isBroker_4 rfl 0 rfl rfl ?_
    refine X_iconst (v := 4) Γ d_I_isBroker_5 (by decide) rfl ?_
    refine X_icmp_ge (tgt := 13) Γ d_I_isBroker_6 (by decide) rfl (fun h6 => ?_) (fun h6 => ?_)
    · replace E := E.trans (if_pos h6)
      refine X_iconst (v := 0) Γ d_I_isBroker_13 (by decide) rfl ?_
      exact X_iretz Γ d_I_isBroker_14 rfl E.symm rfl
    · replace E := E.trans (if_neg h6)
      refine X_iconst (v := 1) Γ d_I_isBroker_9 (by decide) rfl ?_
      refine X_goto (pc' := 14) Γ d_I_isBroker_10 (by decide) ?_
      exact X_iretz Γ d_I_isBroker_14 rfl E.symm rfl
def f_M_isBroker (x1 : Int32) : Int32 := (if x1 < 0 then 0 else (if 4 ≤ x1 then 0 else 1))
theorem e_M_isBroker : y_M_isBroker.cls ≠ "java/lang/invoke/MethodHandle" ∧ y_M_isBroker.cls ≠ "java/lang/invoke/VarHandle" ∧ (parseMethodDescriptor y_M_isBroker.desc).map (fun d => d.parameters.length) = some 1 := by decide +kernel
set_option maxHeartbeats 4000000 in
set_option maxRecDepth 100000 in
theorem m_M_isBroker (l : Launch) (D : va_G) (cl : List vw_C) (tys : List (ClassId × FieldType)) (N : Nat) (a : Nat → Nat) (hJ : xJ N a) (K : Nat → (Nat → Int32) → va_E) (G : Nat → Nat → Int32) (x1 : Int32) : Met l y_M_isBroker (Cond.code y_M_isBroker prog_8_method_2_code 1 (Option.some FieldType.boolean) :: wsBig) { frames := 0, cells := 0, slots := 0, locals := 0 } (xP D cl tys N a (kg K G) [.int x1]) (xQi D cl N a (f_M_isBroker x1) (kg K G)) 0 0 (xA N a) := by
  refine X_met (by decide) rfl (Nat.le_of_ble_eq_true rfl) hJ (fun Y s m args Γ => ?_)
  show X Y s m D cl N a 1 (kg K G) 0 [(0, .int x1)] []
  have E := f_M_isBroker.eq_1 x1
  refine X_iload_n Γ d_M_isBroker_0 rfl 0 rfl rfl ?_
  refine X_if_lt (tgt := 13) Γ d_M_isBroker_1 (by decide) rfl (fun h1 => ?_) (fun h1 => ?_)
  · replace E := E.trans (if_pos h1)
    refine X_iconst (v := 0) Γ d_M_isBroker_13 (by decide) rfl ?_
    exact X_iretz Γ d_M_isBroker_14 rfl E.symm rfl
  · replace E := E.trans (if_neg h1)
    refine X_iload_n Γ d_M_isBroker_4 rfl 0 rfl rfl ?_
    refine X_iconst (v := 4) Γ d_M_isBroker_5 (by decide) rfl ?_
    refine X_icmp_ge (tgt := 13) Γ d_M_isBroker_6 (by decide) rfl (fun h6 => ?_) (fun h6 => ?_)
    · replace E := E.trans (if_pos h6)
      refine X_iconst (v := 0) Γ d_M_isBroker_13 (by decide) rfl ?_
      exact X_iretz Γ d_M_isBroker_14 rfl E.symm rfl
    · replace E := E.trans (if_neg h6)
      refine X_iconst (v := 1) Γ d_M_isBroker_9 (by decide) rfl ?_
      refine X_goto (pc' := 14) Γ d_M_isBroker_10 (by decide) ?_
      exact X_iretz Γ d_M_isBroker_14 rfl E.symm rfl
def f_I_contains (x1 : Int32) (x2 : Int32) : Int32 := (if ((x1 >>> (x2 &&& 31)) &&& 1) = 1 then 1 else 0)
theorem e_I_contains : y_I_contains.cls ≠ "java/lang/invoke/MethodHandle" ∧ y_I_contains.cls ≠ "java/lang/invoke/VarHandle" ∧ (parseMethodDescriptor y_I_contains.desc).map (fun d => d.parameters.length) = some 2 := by decide +kernel
set_option maxHeartbeats 4000000 in
set_option maxRecDepth 100000 in
theorem m_I_contains (l : Launch) (D : va_G) (cl : List vw_C) (tys : List (ClassId × FieldType)) (N : Nat) (a : Nat → Nat) (hJ : xJ N a) (K : Nat → (Nat → Int32) → va_E) (G : Nat → Nat → Int32) (x1 : Int32) (x2 : Int32) : Met l y_I_contains (Cond.code y_I_contains prog_1_method_23_code 2 (Option.some FieldType.boolean) :: wsBig) { frames := 0, cells := 0, slots := 0, locals := 0 } (xP D cl tys N a (kg K G) [.int x1, .int x2]) (xQi D cl N a (f_I_contains x1 x2) (kg K G)) 0 0 (xA N a) := by
  refine X_met (by decide) rfl (Nat.le_of_ble_eq_true rfl) hJ (fun Y s m args Γ => ?_)
  show X Y s m D cl N a 2 (kg K G) 0 [(0, .int x1), (1, .int x2)] []
  have E := f_I_contains.eq_1 x1 x2
  refine X_iload_n Γ d_I_contains_0 rfl 0 rfl rfl ?_
  refine X_iload_n Γ d_I_contains_1 rfl 1 rfl rfl ?_
  refine X_ishr Γ d_I_contains_2 rfl ?_
  refine X_iconst (v := 1) Γ d_I_contains_3 (by decide) rfl ?_
  refine X_iand Γ d_I_contains_4 rfl ?_
  refine X_iconst (v := 1) Γ d_I_contains_5 (by decide) rfl ?_
  refine X_icmp_ne (tgt := 13) Γ d_I_contains_6 (by decide) rfl (fun h6 => ?_) (fun h6 => ?_)
  · replace E := E.trans (if_neg h6)
    refine X_iconst (v := 0) Γ d_I_contains_13 (by decide) rfl ?_
    exact X_iretz Γ d_I_contains_14 rfl E.symm rfl
  · replace E := E.trans (if_pos h6)
    refine X_iconst (v := 1) Γ d_I_contains_9 (by decide) rfl ?_
    refine X_goto (pc' := 14) Γ d_I_contains_10 (by decide) ?_
    exact X_iretz Γ d_I_contains_14 rfl E.symm rfl
def f_I_nearest (x1 : Int32) (x2 : Int32) (x3 : Int32) : Int32 := (if x2 < (if x1 < x3 then x1 else x3) then (if x1 < x3 then x1 else x3) else x2)
theorem e_I_nearest : y_I_nearest.cls ≠ "java/lang/invoke/MethodHandle" ∧ y_I_nearest.cls ≠ "java/lang/invoke/VarHandle" ∧ (parseMethodDescriptor y_I_nearest.desc).map (fun d => d.parameters.length) = some 3 := by decide +kernel
set_option maxHeartbeats 4000000 in
set_option maxRecDepth 100000 in
theorem m_I_nearest (l : Launch) (D : va_G) (cl : List vw_C) (tys : List (ClassId × FieldType)) (N : Nat) (a : Nat → Nat) (hJ : xJ N a) (K : Nat → (Nat → Int32) → va_E) (G : Nat → Nat → Int32) (x1 : Int32) (x2 : Int32) (x3 : Int32) : Met l y_I_nearest (Cond.code y_I_nearest prog_1_method_21_code 3 (Option.some FieldType.int) :: wsBig) { frames := 1, cells := 0, slots := 0, locals := 21 } (xP D cl tys N a (kg K G) [.int x1, .int x2, .int x3]) (xQi D cl N a (f_I_nearest x1 x2 x3) (kg K G)) 0 0 (xA N a) := by
  refine X_met (by decide) rfl (Nat.le_of_ble_eq_true rfl) hJ (fun Y s m args Γ => ?_)
  show X Y s m D cl N a 3 (kg K G) 0 [(0, .int x1), (1, .int x2), (2, .int x3)] []
  have E := f_I_nearest.eq_1 x1 x2 x3
  refine X_iload_n Γ d_I_nearest_0 rfl 1 rfl rfl ?_
  refine X_iload_n Γ d_I_nearest_1 rfl 2 rfl rfl ?_
  refine X_iload_n Γ d_I_nearest_2 rfl 0 rfl rfl ?_
  refine X_mmin Γ d_I_nearest_3 w22 w23 w2 w24 (by decide) (Nat.le_of_ble_eq_true rfl) rfl ?_
  refine X_mmax Γ d_I_nearest_6 w25 w26 w2 w27 (by decide) (Nat.le_of_ble_eq_true rfl) rfl ?_
  exact X_ireti Γ d_I_nearest_9 E.symm rfl
def f_I_leastOf_2 (x1 : Int32) : Nat → Int32 → Int32
  | 0, v1_2 => 0
  | k2 + 1, v1_2 => (if 4 ≤ v1_2 then (-1) else (if ((f_I_contains x1 v1_2)) = 0 then (f_I_leastOf_2 x1 k2 (v1_2 + 1)) else v1_2))
def f_I_leastOf (x1 : Int32) : Int32 := (f_I_leastOf_2 x1 5 0)
theorem e_I_leastOf : y_I_leastOf.cls ≠ "java/lang/invoke/MethodHandle" ∧ y_I_leastOf.cls ≠ "java/lang/invoke/VarHandle" ∧ (parseMethodDescriptor y_I_leastOf.desc).map (fun d => d.parameters.length) = some 1 := by decide +kernel
set_option maxHeartbeats 4000000 in
set_option maxRecDepth 100000 in
theorem m_I_leastOf (l : Launch) (D : va_G) (cl : List vw_C) (tys : List (ClassId × FieldType)) (N : Nat) (a : Nat → Nat) (hJ : xJ N a) (K : Nat → (Nat → Int32) → va_E) (G : Nat → Nat → Int32) (x1 : Int32) : Met l y_I_leastOf (Cond.code y_I_leastOf prog_1_method_24_code 2 (Option.some FieldType.int) :: wsBig) { frames := 1, cells := 0, slots := 0, locals := 21 } (xP D cl tys N a (kg K G) [.int x1]) (xQi D cl N a (f_I_leastOf x1) (kg K G)) 0 0 (xA N a) := by
  refine X_met (by decide) rfl (Nat.le_of_ble_eq_true rfl) hJ (fun Y s m args Γ => ?_)
  show X Y s m D cl N a 2 (kg K G) 0 [(0, .int x1)] []
  have E := f_I_leastOf.eq_1 x1
  refine X_iconst (v := 0) Γ d_I_leastOf_0 (by decide) rfl ?_
  refine X_istore_n Γ d_I_leastOf_1 rfl (by decide) rfl rfl ?_
  have J2 : ∀ (k2 : Nat) (v1_2 : Int32), (0 < k2 ∧ k2 ≤ 5 ∧ v1_2 = nI (5 - k2)) → f_I_leastOf x1 = f_I_leastOf_2 x1 k2 v1_2 → X Y s m D cl N a 2 (kg K G) 2 [(0, .int x1), (1, .int v1_2)] [] := by
    intro k2
    induction k2 with
    | zero => exact fun v1_2 hI2 _ => absurd hI2 (fun h => Nat.lt_irrefl 0 h.1)
    | succ k2 ih2 =>
      intro v1_2 hI2 E
      rw [f_I_leastOf_2] at E
      refine X_iload_n Γ d_I_leastOf_2 rfl 1 rfl rfl ?_
      refine X_iconst (v := 4) Γ d_I_leastOf_3 (by decide) rfl ?_
      refine X_icmp_ge (tgt := 23) Γ d_I_leastOf_4 (by decide) rfl (fun h4 => ?_) (fun h4 => ?_)
      · replace E := E.trans (if_pos h4)
        refine X_iconst (v := (-1)) Γ d_I_leastOf_23 (by decide) rfl ?_
        exact X_ireti Γ d_I_leastOf_24 E.symm rfl
      · replace E := E.trans (if_neg h4)
        refine X_iload_n Γ d_I_leastOf_7 rfl 0 rfl rfl ?_
        refine X_iload_n Γ d_I_leastOf_8 rfl 1 rfl rfl ?_
        refine X_callSi (rest := []) Γ d_I_leastOf_9 (m_I_contains l D _ _ _ _ hJ _ _ x1 v1_2) w429 w256 w1 w257 e_I_contains ⟨by decide, by decide⟩ ⟨rfl, rfl⟩ rfl rfl (Nat.le_of_ble_eq_true rfl) rfl ?_
        refine X_if_eq (tgt := 17) Γ d_I_leastOf_12 (by decide) rfl (fun h12 => ?_) (fun h12 => ?_)
        · replace E := E.trans (if_pos h12)
          refine X_iinc (v := (v1_2 + 1)) Γ d_I_leastOf_17 1 rfl rfl (by decide) rfl rfl ?_
          refine X_goto (pc' := 2) Γ d_I_leastOf_20 (by decide) ?_
          refine X_loc [1, 0] rfl ?_
          exact ih2 (v1_2 + 1) (lc_step (by decide) (by decide) hI2.1 hI2.2.1 hI2.2.2 h4) E
        · replace E := E.trans (if_neg h12)
          refine X_iload_n Γ d_I_leastOf_15 rfl 1 rfl rfl ?_
          exact X_ireti Γ d_I_leastOf_16 E.symm rfl
  refine X_loc [1, 0] rfl ?_
  exact J2 5 0 (⟨by decide, by decide, by decide⟩) E
def f_Int_bitCount (x1 : Int32) : Int32 := ((((((((x1 - (((x1.toUInt32 >>> ((1 : Int32).toUInt32 &&& Int32.toUInt32 31)).toInt32) &&& 1431655765)) &&& 858993459) + ((((x1 - (((x1.toUInt32 >>> ((1 : Int32).toUInt32 &&& Int32.toUInt32 31)).toInt32) &&& 1431655765)).toUInt32 >>> ((2 : Int32).toUInt32 &&& Int32.toUInt32 31)).toInt32) &&& 858993459)) + (((((x1 - (((x1.toUInt32 >>> ((1 : Int32).toUInt32 &&& Int32.toUInt32 31)).toInt32) &&& 1431655765)) &&& 858993459) + ((((x1 - (((x1.toUInt32 >>> ((1 : Int32).toUInt32 &&& Int32.toUInt32 31)).toInt32) &&& 1431655765)).toUInt32 >>> ((2 : Int32).toUInt32 &&& Int32.toUInt32 31)).toInt32) &&& 858993459)).toUInt32 >>> ((4 : Int32).toUInt32 &&& Int32.toUInt32 31)).toInt32)) &&& 252645135) + (((((((x1 - (((x1.toUInt32 >>> ((1 : Int32).toUInt32 &&& Int32.toUInt32 31)).toInt32) &&& 1431655765)) &&& 858993459) + ((((x1 - (((x1.toUInt32 >>> ((1 : Int32).toUInt32 &&& Int32.toUInt32 31)).toInt32) &&& 1431655765)).toUInt32 >>> ((2 : Int32).toUInt32 &&& Int32.toUInt32 31)).toInt32) &&& 858993459)) + (((((x1 - (((x1.toUInt32 >>> ((1 : Int32).toUInt32 &&& Int32.toUInt32 31)).toInt32) &&& 1431655765)) &&& 858993459) + ((((x1 - (((x1.toUInt32 >>> ((1 : Int32).toUInt32 &&& Int32.toUInt32 31)).toInt32) &&& 1431655765)).toUInt32 >>> ((2 : Int32).toUInt32 &&& Int32.toUInt32 31)).toInt32) &&& 858993459)).toUInt32 >>> ((4 : Int32).toUInt32 &&& Int32.toUInt32 31)).toInt32)) &&& 252645135).toUInt32 >>> ((8 : Int32).toUInt32 &&& Int32.toUInt32 31)).toInt32)) + ((((((((x1 - (((x1.toUInt32 >>> ((1 : Int32).toUInt32 &&& Int32.toUInt32 31)).toInt32) &&& 1431655765)) &&& 858993459) + ((((x1 - (((x1.toUInt32 >>> ((1 : Int32).toUInt32 &&& Int32.toUInt32 31)).toInt32) &&& 1431655765)).toUInt32 >>> ((2 : Int32).toUInt32 &&& Int32.toUInt32 31)).toInt32) &&& 858993459)) + (((((x1 - (((x1.toUInt32 >>> ((1 : Int32).toUInt32 &&& Int32.toUInt32 31)).toInt32) &&& 1431655765)) &&& 858993459) + ((((x1 - (((x1.toUInt32 >>> ((1 : Int32).toUInt32 &&& Int32.toUInt32 31)).toInt32) &&& 1431655765)).toUInt32 >>> ((2 : Int32).toUInt32 &&& Int32.toUInt32 31)).toInt32) &&& 858993459)).toUInt32 >>> ((4 : Int32).toUInt32 &&& Int32.toUInt32 31)).toInt32)) &&& 252645135) + (((((((x1 - (((x1.toUInt32 >>> ((1 : Int32).toUInt32 &&& Int32.toUInt32 31)).toInt32) &&& 1431655765)) &&& 858993459) + ((((x1 - (((x1.toUInt32 >>> ((1 : Int32).toUInt32 &&& Int32.toUInt32 31)).toInt32) &&& 1431655765)).toUInt32 >>> ((2 : Int32).toUInt32 &&& Int32.toUInt32 31)).toInt32) &&& 858993459)) + (((((x1 - (((x1.toUInt32 >>> ((1 : Int32).toUInt32 &&& Int32.toUInt32 31)).toInt32) &&& 1431655765)) &&& 858993459) + ((((x1 - (((x1.toUInt32 >>> ((1 : Int32).toUInt32 &&& Int32.toUInt32 31)).toInt32) &&& 1431655765)).toUInt32 >>> ((2 : Int32).toUInt32 &&& Int32.toUInt32 31)).toInt32) &&& 858993459)).toUInt32 >>> ((4 : Int32).toUInt32 &&& Int32.toUInt32 31)).toInt32)) &&& 252645135).toUInt32 >>> ((8 : Int32).toUInt32 &&& Int32.toUInt32 31)).toInt32)).toUInt32 >>> ((16 : Int32).toUInt32 &&& Int32.toUInt32 31)).toInt32)) &&& 63)
theorem e_Int_bitCount : y_Int_bitCount.cls ≠ "java/lang/invoke/MethodHandle" ∧ y_Int_bitCount.cls ≠ "java/lang/invoke/VarHandle" ∧ (parseMethodDescriptor y_Int_bitCount.desc).map (fun d => d.parameters.length) = some 1 := by decide +kernel
set_option maxHeartbeats 4000000 in
set_option maxRecDepth 100000 in
theorem m_Int_bitCount (l : Launch) (D : va_G) (cl : List vw_C) (tys : List (ClassId × FieldType)) (N : Nat) (a : Nat → Nat) (hJ : xJ N a) (K : Nat → (Nat → Int32) → va_E) (G : Nat → Nat → Int32) (x1 : Int32) : Met l y_Int_bitCount (Cond.code y_Int_bitCount prog_9_method_49_code 1 (Option.some FieldType.int) :: wsBig) { frames := 0, cells := 0, slots := 0, locals := 0 } (xP D cl tys N a (kg K G) [.int x1]) (xQi D cl N a (f_Int_bitCount x1) (kg K G)) 0 0 (xA N a) := by
  refine X_met (by decide) rfl (Nat.le_of_ble_eq_true rfl) hJ (fun Y s m args Γ => ?_)
  show X Y s m D cl N a 1 (kg K G) 0 [(0, .int x1)] []
  have E := f_Int_bitCount.eq_1 x1
  refine X_iload_n Γ d_Int_bitCount_0 rfl 0 rfl rfl ?_
  refine X_iload_n Γ d_Int_bitCount_1 rfl 0 rfl rfl ?_
  refine X_iconst (v := 1) Γ d_Int_bitCount_2 (by decide) rfl ?_
  refine X_iushr (v := (x1.toUInt32 >>> ((1 : Int32).toUInt32 &&& Int32.toUInt32 31)).toInt32) Γ d_Int_bitCount_3 rfl rfl ?_
  refine X_ldcw (v := 1431655765) Γ d_Int_bitCount_4 w243 rfl ?_
  refine X_iand Γ d_Int_bitCount_7 rfl ?_
  refine X_isub Γ d_Int_bitCount_8 rfl ?_
  refine X_istore_n Γ d_Int_bitCount_9 rfl (by decide) rfl rfl ?_
  refine X_iload_n Γ d_Int_bitCount_10 rfl 0 rfl rfl ?_
  refine X_ldcw (v := 858993459) Γ d_Int_bitCount_11 w244 rfl ?_
  refine X_iand Γ d_Int_bitCount_14 rfl ?_
  refine X_iload_n Γ d_Int_bitCount_15 rfl 0 rfl rfl ?_
  refine X_iconst (v := 2) Γ d_Int_bitCount_16 (by decide) rfl ?_
  refine X_iushr (v := ((x1 - (((x1.toUInt32 >>> ((1 : Int32).toUInt32 &&& Int32.toUInt32 31)).toInt32) &&& 1431655765)).toUInt32 >>> ((2 : Int32).toUInt32 &&& Int32.toUInt32 31)).toInt32) Γ d_Int_bitCount_17 rfl rfl ?_
  refine X_ldcw (v := 858993459) Γ d_Int_bitCount_18 w244 rfl ?_
  refine X_iand Γ d_Int_bitCount_21 rfl ?_
  refine X_iadd Γ d_Int_bitCount_22 rfl ?_
  refine X_istore_n Γ d_Int_bitCount_23 rfl (by decide) rfl rfl ?_
  refine X_iload_n Γ d_Int_bitCount_24 rfl 0 rfl rfl ?_
  refine X_iload_n Γ d_Int_bitCount_25 rfl 0 rfl rfl ?_
  refine X_iconst (v := 4) Γ d_Int_bitCount_26 (by decide) rfl ?_
  refine X_iushr (v := ((((x1 - (((x1.toUInt32 >>> ((1 : Int32).toUInt32 &&& Int32.toUInt32 31)).toInt32) &&& 1431655765)) &&& 858993459) + ((((x1 - (((x1.toUInt32 >>> ((1 : Int32).toUInt32 &&& Int32.toUInt32 31)).toInt32) &&& 1431655765)).toUInt32 >>> ((2 : Int32).toUInt32 &&& Int32.toUInt32 31)).toInt32) &&& 858993459)).toUInt32 >>> ((4 : Int32).toUInt32 &&& Int32.toUInt32 31)).toInt32) Γ d_Int_bitCount_27 rfl rfl ?_
  refine X_iadd Γ d_Int_bitCount_28 rfl ?_
  refine X_ldcw (v := 252645135) Γ d_Int_bitCount_29 w245 rfl ?_
  refine X_iand Γ d_Int_bitCount_32 rfl ?_
  refine X_istore_n Γ d_Int_bitCount_33 rfl (by decide) rfl rfl ?_
  refine X_iload_n Γ d_Int_bitCount_34 rfl 0 rfl rfl ?_
  refine X_iload_n Γ d_Int_bitCount_35 rfl 0 rfl rfl ?_
  refine X_bipush (v := 8) Γ d_Int_bitCount_36 (by decide) rfl ?_
  refine X_iushr (v := ((((((x1 - (((x1.toUInt32 >>> ((1 : Int32).toUInt32 &&& Int32.toUInt32 31)).toInt32) &&& 1431655765)) &&& 858993459) + ((((x1 - (((x1.toUInt32 >>> ((1 : Int32).toUInt32 &&& Int32.toUInt32 31)).toInt32) &&& 1431655765)).toUInt32 >>> ((2 : Int32).toUInt32 &&& Int32.toUInt32 31)).toInt32) &&& 858993459)) + (((((x1 - (((x1.toUInt32 >>> ((1 : Int32).toUInt32 &&& Int32.toUInt32 31)).toInt32) &&& 1431655765)) &&& 858993459) + ((((x1 - (((x1.toUInt32 >>> ((1 : Int32).toUInt32 &&& Int32.toUInt32 31)).toInt32) &&& 1431655765)).toUInt32 >>> ((2 : Int32).toUInt32 &&& Int32.toUInt32 31)).toInt32) &&& 858993459)).toUInt32 >>> ((4 : Int32).toUInt32 &&& Int32.toUInt32 31)).toInt32)) &&& 252645135).toUInt32 >>> ((8 : Int32).toUInt32 &&& Int32.toUInt32 31)).toInt32) Γ d_Int_bitCount_38 rfl rfl ?_
  refine X_iadd Γ d_Int_bitCount_39 rfl ?_
  refine X_istore_n Γ d_Int_bitCount_40 rfl (by decide) rfl rfl ?_
  refine X_iload_n Γ d_Int_bitCount_41 rfl 0 rfl rfl ?_
  refine X_iload_n Γ d_Int_bitCount_42 rfl 0 rfl rfl ?_
  refine X_bipush (v := 16) Γ d_Int_bitCount_43 (by decide) rfl ?_
  refine X_iushr (v := (((((((x1 - (((x1.toUInt32 >>> ((1 : Int32).toUInt32 &&& Int32.toUInt32 31)).toInt32) &&& 1431655765)) &&& 858993459) + ((((x1 - (((x1.toUInt32 >>> ((1 : Int32).toUInt32 &&& Int32.toUInt32 31)).toInt32) &&& 1431655765)).toUInt32 >>> ((2 : Int32).toUInt32 &&& Int32.toUInt32 31)).toInt32) &&& 858993459)) + (((((x1 - (((x1.toUInt32 >>> ((1 : Int32).toUInt32 &&& Int32.toUInt32 31)).toInt32) &&& 1431655765)) &&& 858993459) + ((((x1 - (((x1.toUInt32 >>> ((1 : Int32).toUInt32 &&& Int32.toUInt32 31)).toInt32) &&& 1431655765)).toUInt32 >>> ((2 : Int32).toUInt32 &&& Int32.toUInt32 31)).toInt32) &&& 858993459)).toUInt32 >>> ((4 : Int32).toUInt32 &&& Int32.toUInt32 31)).toInt32)) &&& 252645135) + (((((((x1 - (((x1.toUInt32 >>> ((1 : Int32).toUInt32 &&& Int32.toUInt32 31)).toInt32) &&& 1431655765)) &&& 858993459) + ((((x1 - (((x1.toUInt32 >>> ((1 : Int32).toUInt32 &&& Int32.toUInt32 31)).toInt32) &&& 1431655765)).toUInt32 >>> ((2 : Int32).toUInt32 &&& Int32.toUInt32 31)).toInt32) &&& 858993459)) + (((((x1 - (((x1.toUInt32 >>> ((1 : Int32).toUInt32 &&& Int32.toUInt32 31)).toInt32) &&& 1431655765)) &&& 858993459) + ((((x1 - (((x1.toUInt32 >>> ((1 : Int32).toUInt32 &&& Int32.toUInt32 31)).toInt32) &&& 1431655765)).toUInt32 >>> ((2 : Int32).toUInt32 &&& Int32.toUInt32 31)).toInt32) &&& 858993459)).toUInt32 >>> ((4 : Int32).toUInt32 &&& Int32.toUInt32 31)).toInt32)) &&& 252645135).toUInt32 >>> ((8 : Int32).toUInt32 &&& Int32.toUInt32 31)).toInt32)).toUInt32 >>> ((16 : Int32).toUInt32 &&& Int32.toUInt32 31)).toInt32) Γ d_Int_bitCount_45 rfl rfl ?_
  refine X_iadd Γ d_Int_bitCount_46 rfl ?_
  refine X_istore_n Γ d_Int_bitCount_47 rfl (by decide) rfl rfl ?_
  refine X_iload_n Γ d_Int_bitCount_48 rfl 0 rfl rfl ?_
  refine X_bipush (v := 63) Γ d_Int_bitCount_49 (by decide) rfl ?_
  refine X_iand Γ d_Int_bitCount_51 rfl ?_
  exact X_ireti Γ d_Int_bitCount_52 E.symm rfl
def f_Arr_fill_5 (n1_ : Nat) (len : Nat) (x2 : Int32) (G : Nat → Nat → Int32) : Nat → Int32 → (Nat → Nat → Int32) → (Nat → Nat → Int32)
  | 0, v2_5, Gv5 => Gv5
  | k5 + 1, v2_5, Gv5 => (if (nI len) ≤ v2_5 then Gv5 else (f_Arr_fill_5 n1_ len x2 G k5 (v2_5 + 1) (g2 Gv5 n1_ v2_5.toNatClampNeg x2)))
def f_Arr_fill (n1_ : Nat) (len : Nat) (x2 : Int32) (G : Nat → Nat → Int32) : (Nat → Nat → Int32) := (f_Arr_fill_5 n1_ len x2 G (len + 1) 0 G)
theorem e_Arr_fill : y_Arr_fill.cls ≠ "java/lang/invoke/MethodHandle" ∧ y_Arr_fill.cls ≠ "java/lang/invoke/VarHandle" ∧ (parseMethodDescriptor y_Arr_fill.desc).map (fun d => d.parameters.length) = some 2 := by decide +kernel
set_option maxHeartbeats 4000000 in
set_option maxRecDepth 100000 in
theorem m_Arr_fill (l : Launch) (D : va_G) (cl : List vw_C) (tys : List (ClassId × FieldType)) (N : Nat) (a : Nat → Nat) (hJ : xJ N a) (K : Nat → (Nat → Int32) → va_E) (G : Nat → Nat → Int32) (n1_ len : Nat) (cA : ClassId) (hn0 : n1_ < N) (hk0 : ∀ f, K n1_ f = .inl (cA, len, .inl f)) (hty : tys[0]? = some (cA, .int)) (x2 : Int32) (hl : len < 1000) : Met l y_Arr_fill (Cond.code y_Arr_fill prog_11_method_103_code 4 (Option.none : Option FieldType) :: wsBig) { frames := 0, cells := 0, slots := 0, locals := 0 } (xP D cl tys N a (kg K G) [.ref (a n1_), .int x2]) (xQv D cl N a (kg K (f_Arr_fill n1_ len x2 G))) 0 0 (xA N a) := by
  refine X_met (by decide) rfl (Nat.le_of_ble_eq_true rfl) hJ (fun Y s m args Γ => ?_)
  show X Y s m D cl N a 4 (kg K G) 0 [(0, .ref (a n1_)), (1, .int x2)] []
  have E := f_Arr_fill.eq_1 n1_ len x2 G
  refine X_iconst (v := 0) Γ d_Arr_fill_0 (by decide) rfl ?_
  refine X_istore_n Γ d_Arr_fill_1 rfl (by decide) rfl rfl ?_
  refine X_aload_n Γ d_Arr_fill_2 rfl 1 rfl rfl ?_
  refine X_alen (v := nI len) Γ d_Arr_fill_3 hn0 (hk0 _) 0 hty rfl rfl ?_
  refine X_istore_n Γ d_Arr_fill_4 rfl (by decide) rfl rfl ?_
  have J5 : ∀ (k5 : Nat) (v2_5 : Int32) (Gv5 : Nat → Nat → Int32), (0 < k5 ∧ k5 ≤ len + 1 ∧ v2_5 = nI (len + 1 - k5)) → f_Arr_fill n1_ len x2 G = f_Arr_fill_5 n1_ len x2 G k5 v2_5 Gv5 → X Y s m D cl N a 4 (kg K Gv5) 5 [(0, .ref (a n1_)), (1, .int x2), (2, .int v2_5), (3, .int (nI len))] [] := by
    intro k5
    induction k5 with
    | zero => exact fun v2_5 Gv5 hI5 _ => absurd hI5 (fun h => Nat.lt_irrefl 0 h.1)
    | succ k5 ih5 =>
      intro v2_5 Gv5 hI5 E
      rw [f_Arr_fill_5] at E
      refine X_iload_n Γ d_Arr_fill_5 rfl 2 rfl rfl ?_
      refine X_iload_n Γ d_Arr_fill_6 rfl 3 rfl rfl ?_
      refine X_icmp_ge (tgt := 20) Γ d_Arr_fill_7 (by decide) rfl (fun h7 => ?_) (fun h7 => ?_)
      · replace E := E.trans (if_pos h7)
        exact X_vret Γ d_Arr_fill_20 (gv_eq E)
      · replace E := E.trans (if_neg h7)
        refine X_aload_n Γ d_Arr_fill_10 rfl 0 rfl rfl ?_
        refine X_iload_n Γ d_Arr_fill_11 rfl 2 rfl rfl ?_
        refine X_iload_n Γ d_Arr_fill_12 rfl 1 rfl rfl ?_
        refine X_iast (kx := v2_5.toNatClampNeg) Γ d_Arr_fill_13 hn0 (hk0 _) 0 hty (fl_in hl hI5 h7) (fun _ => (hk0 _)) rfl rfl ?_
        refine X_iinc (v := (v2_5 + 1)) Γ d_Arr_fill_14 2 rfl rfl (by decide) rfl rfl ?_
        refine X_goto (pc' := 5) Γ d_Arr_fill_17 (by decide) ?_
        refine X_loc [1, 2, 0, 3] rfl ?_
        exact ih5 (v2_5 + 1) (g2 Gv5 n1_ v2_5.toNatClampNeg x2) (fl_step hl hI5 h7) E
  refine X_loc [2, 3, 1, 0] rfl ?_
  exact J5 (len + 1) 0 G (⟨Nat.succ_pos _, Nat.le_refl _, by rw [Nat.sub_self]; rfl⟩) E
theorem isB_in {x : Int32} (h : ¬ f_I_isBroker x = 0) : vp_in x 4 := by
  unfold f_I_isBroker at h
  by_cases h1 : x < 0
  · rw [if_pos h1] at h; exact absurd rfl h
  · rw [if_neg h1] at h
    by_cases h2 : 4 ≤ x
    · rw [if_pos h2] at h; exact absurd rfl h
    · rw [i_lt, i0] at h1
      rw [i_le, i4] at h2
      rw [vp_in_iff]
      omega
theorem isB_of {x : Int32} (h : vp_in x 4) : f_I_isBroker x = 1 := by
  rw [vp_in_iff] at h
  unfold f_I_isBroker
  rw [if_neg (by rw [i_lt, i0]; omega), if_neg (by rw [i_le, i4]; omega)]
