def f_H_has (x1 : Int32) (G : Nat → Nat → Int32) : Int32 := (if x1 < 0 then 0 else (if (G 27 1) ≤ x1 then 0 else 1))
theorem e_H_has : y_H_has.cls ≠ "java/lang/invoke/MethodHandle" ∧ y_H_has.cls ≠ "java/lang/invoke/VarHandle" ∧ (parseMethodDescriptor y_H_has.desc).map (fun d => d.parameters.length) = some 1 := by decide +kernel
set_option maxHeartbeats 4000000 in
set_option maxRecDepth 100000 in
theorem m_H_has (l : Launch) (D : va_G) (cI cZ cB cM : ClassId) (a : Nat → Nat) (hJ : xJ 56 a) (P : Nat → Nat) (G : Nat → Nat → Int32) (x1 : Int32) : Met l y_H_has (Cond.code y_H_has prog_3_method_2_code 2 (Option.some FieldType.boolean) :: wsBig) { frames := 0, cells := 0, slots := 0, locals := 0 } (xP D xcl (xty cI cZ cB cM) 56 a (kg (kC cI cB cM a P) G) [.ref (a 27), .int x1]) (xQi D xcl 56 a (f_H_has x1 G) (kg (kC cI cB cM a P) G)) 0 0 (xA 56 a) := by
  refine X_met (by decide) rfl (Nat.le_of_ble_eq_true rfl) hJ (fun Y s m args Γ => ?_)
  show X Y s m D xcl 56 a 2 (kg (kC cI cB cM a P) G) 0 [(0, .ref (a 27)), (1, .int x1)] []
  have E := f_H_has.eq_1 x1 G
  refine X_iload_n Γ d_H_has_0 rfl 1 rfl rfl ?_
  refine X_if_lt (tgt := 16) Γ d_H_has_1 (by decide) rfl (fun h1 => ?_) (fun h1 => ?_)
  · replace E := E.trans (if_pos h1)
    refine X_iconst (v := 0) Γ d_H_has_16 (by decide) rfl ?_
    exact X_iretz Γ d_H_has_17 rfl E.symm rfl
  · replace E := E.trans (if_neg h1)
    refine X_iload_n Γ d_H_has_4 rfl 1 rfl rfl ?_
    refine X_aload_n Γ d_H_has_5 rfl 0 rfl rfl ?_
    refine X_get Γ d_H_has_6 (by decide) kC_H rfl in_H 1 (by decide) w113 rfl rfl rfl ?_
    refine X_icmp_ge (tgt := 16) Γ d_H_has_9 (by decide) rfl (fun h9 => ?_) (fun h9 => ?_)
    · replace E := E.trans (if_pos h9)
      refine X_iconst (v := 0) Γ d_H_has_16 (by decide) rfl ?_
      exact X_iretz Γ d_H_has_17 rfl E.symm rfl
    · replace E := E.trans (if_neg h9)
      refine X_iconst (v := 1) Γ d_H_has_12 (by decide) rfl ?_
      refine X_goto (pc' := 17) Γ d_H_has_13 (by decide) ?_
      exact X_iretz Γ d_H_has_17 rfl E.symm rfl
/-! The channel: its count is in range; what take and send leave alone. -/
def okH (G : Nat → Nat → Int32) : Prop := 0 ≤ (G 27 1).toInt ∧ (G 27 1).toInt ≤ 8
theorem okH_of {G G' : Nat → Nat → Int32} (h : okH G) (e : G' 27 = G 27) : okH G' := by
  unfold okH
  rw [e]
  exact h
theorem okH_g2 {G : Nat → Nat → Int32} {m k : Nat} {v : Int32} (h : okH G) (hne : 27 ≠ m) : okH (g2 G m k v) := okH_of h (g2_ne G k v hne)
theorem ne27 {j : Nat} (h : j < 4) : 27 ≠ 2 + j := by omega
theorem hhas_lt {x : Int32} {G : Nat → Nat → Int32} (h : ¬ f_H_has x G = 0) : 0 ≤ x.toInt ∧ x.toInt < (G 27 1).toInt := by
  unfold f_H_has at h
  by_cases h1 : x < 0
  · rw [if_pos h1] at h; exact absurd rfl h
  · rw [if_neg h1] at h
    by_cases h2 : G 27 1 ≤ x
    · rw [if_pos h2] at h; exact absurd rfl h
    · rw [i_lt, i0] at h1
      rw [i_le] at h2
      omega
theorem hhas_in {x : Int32} {G : Nat → Nat → Int32} (hc : okH G) (h : ¬ f_H_has x G = 0) : vp_in x 9 := by
  have h1 := hhas_lt h
  have h2 := hc.2
  rw [vp_in_iff]
  omega
theorem cnt_in {G : Nat → Nat → Int32} (hc : okH G) (h : G 27 1 < 8) : vp_in (G 27 1) 9 := by
  rw [i_lt, i8] at h
  have h2 := hc.1
  rw [vp_in_iff]
  omega
theorem tk_init {x : Int32} {G : Nat → Nat → Int32} {P : Nat → Nat} (hc : okH G) (h : ¬ f_H_has x G = 0) (hP : ∀ j : Nat, j < 9 → P j < 9) : 9 - x.toInt < ((10 : Nat) : Int) ∧ 0 ≤ x.toInt ∧ x.toInt ≤ 8 ∧ ∀ j : Nat, j < 9 → P j < 9 := by
  have h1 := hhas_lt h
  have h2 := hc.2
  exact ⟨by omega, by omega, by omega, hP⟩
theorem tk_in {v : Int32} {k : Nat} {P : Nat → Nat} (hI : 9 - v.toInt < ((k + 1 : Nat) : Int) ∧ 0 ≤ v.toInt ∧ v.toInt ≤ 8 ∧ ∀ j : Nat, j < 9 → P j < 9) (h : ¬ 8 ≤ v) : vp_in v 9 := by
  rw [i_le, i8] at h
  rw [vp_in_iff]
  omega
theorem tk_v1 {v : Int32} (h0 : 0 ≤ v.toInt) (h : ¬ 8 ≤ v) : (v + 1).toInt = v.toInt + 1 := by
  rw [i_le, i8] at h
  rw [i_add (by rw [i1]; omega) (by rw [i1]; omega), i1]
theorem tk_in1 {v : Int32} {k : Nat} {P : Nat → Nat} (hI : 9 - v.toInt < ((k + 1 : Nat) : Int) ∧ 0 ≤ v.toInt ∧ v.toInt ≤ 8 ∧ ∀ j : Nat, j < 9 → P j < 9) (h : ¬ 8 ≤ v) : vp_in (v + 1) 9 := by
  have h1 := tk_v1 hI.2.1 h
  rw [i_le, i8] at h
  rw [vp_in_iff, h1]
  omega
theorem va_up_lt {P : Nat → Nat} {i w : Nat} (hP : ∀ j : Nat, j < 9 → P j < 9) (hw : w < 9) : ∀ j : Nat, j < 9 → va_up P i w j < 9 := by
  intro j hj
  unfold va_up
  split
  · exact hw
  · exact hP j hj
theorem tk_step {v : Int32} {k : Nat} {P : Nat → Nat} (hI : 9 - v.toInt < ((k + 1 : Nat) : Int) ∧ 0 ≤ v.toInt ∧ v.toInt ≤ 8 ∧ ∀ j : Nat, j < 9 → P j < 9) (h : ¬ 8 ≤ v) : 9 - (v + 1).toInt < (k : Int) ∧ 0 ≤ (v + 1).toInt ∧ (v + 1).toInt ≤ 8 ∧ ∀ j : Nat, j < 9 → va_up P v.toNatClampNeg (P (v + 1).toNatClampNeg) j < 9 := by
  have h2 := va_up_lt (i := v.toNatClampNeg) hI.2.2.2 (hI.2.2.2 _ (vp_lt (tk_in1 hI h)))
  have h1 := tk_v1 hI.2.1 h
  rw [i_le, i8] at h
  rw [h1]
  exact ⟨by omega, by omega, by omega, h2⟩
theorem rt_zb (x : Int32) (G : Nat → Nat → Int32) : (f_T_reactTo x G).1 = 0 ∨ (f_T_reactTo x G).1 = 1 := by
  unfold f_T_reactTo
  simp only [jn]
  have hb : ∀ y z, (f_T_begin y z G).1 = 1 := fun y z => rfl
  repeat' split
  all_goals first | exact Or.inl rfl | exact Or.inr rfl | exact Or.inr (hb _ _)
theorem zb_reactTo (x : Int32) (G : Nat → Nat → Int32) : narrow .boolean (.int (f_T_reactTo x G).1) = .int (f_T_reactTo x G).1 := by
  rcases rt_zb x G with h | h <;> rw [h] <;> rfl
theorem okH_nf {n : Nat} {x1 x2 x3 : Int32} {G : Nat → Nat → Int32} (h : okH G) (_n1 : 2 ≤ n) (n2 : n < 6) : okH (f_B_noteFetched n x1 x2 x3 G) := okH_of h (nf_ne (by omega) (by omega) (by omega))
def f_H_take_19 (x1 : Int32) (G : Nat → Nat → Int32) (P : Nat → Nat) : Nat → Int32 → (Nat → Nat → Int32) → (Nat → Nat) → Option Nat × (Nat → Nat → Int32) × (Nat → Nat)
  | 0, v3_19, Gv19, Pv19 => (none, Gv19, Pv19)
  | k19 + 1, v3_19, Gv19, Pv19 => (if 8 ≤ v3_19 then (some (29 + P x1.toNatClampNeg), (g2 Gv19 27 1 ((Gv19 27 1) - 1)), (va_up Pv19 8 (P x1.toNatClampNeg))) else (f_H_take_19 x1 G P k19 (v3_19 + 1) Gv19 (va_up Pv19 v3_19.toNatClampNeg (Pv19 (v3_19 + 1).toNatClampNeg))))
def f_H_take (x1 : Int32) (G : Nat → Nat → Int32) (P : Nat → Nat) : Option Nat × (Nat → Nat → Int32) × (Nat → Nat) := (if ((f_H_has x1 G)) = 0 then (none, G, P) else (f_H_take_19 x1 G P 10 x1 G P))
theorem e_H_take : y_H_take.cls ≠ "java/lang/invoke/MethodHandle" ∧ y_H_take.cls ≠ "java/lang/invoke/VarHandle" ∧ (parseMethodDescriptor y_H_take.desc).map (fun d => d.parameters.length) = some 1 := by decide +kernel
set_option maxHeartbeats 4000000 in
set_option maxRecDepth 100000 in
theorem m_H_take (l : Launch) (D : va_G) (cI cZ cB cM : ClassId) (a : Nat → Nat) (hJ : xJ 56 a) (P : Nat → Nat) (G : Nat → Nat → Int32) (x1 : Int32) (hP9 : ∀ j, j < 9 → P j < 9) (hc : okH G) : Met l y_H_take (Cond.code y_H_take prog_3_method_3_code 4 (Option.some (FieldType.object "InSyncLog$Message")) :: wsBig) { frames := 1, cells := 0, slots := 0, locals := 21 } (xP D xcl (xty cI cZ cB cM) 56 a (kg (kC cI cB cM a P) G) [.ref (a 27), .int x1]) (xQq D xcl 56 a (((f_H_take x1 G P).1).map a) (kg (kC cI cB cM a ((f_H_take x1 G P).2.2)) ((f_H_take x1 G P).2.1))) 0 0 (xA 56 a) := by
  refine X_met (by decide) rfl (Nat.le_of_ble_eq_true rfl) hJ (fun Y s m args Γ => ?_)
  show X Y s m D xcl 56 a 4 (kg (kC cI cB cM a P) G) 0 [(0, .ref (a 27)), (1, .int x1)] []
  have E := f_H_take.eq_1 x1 G P
  refine X_aload_n Γ d_H_take_0 rfl 0 rfl rfl ?_
  refine X_iload_n Γ d_H_take_1 rfl 1 rfl rfl ?_
  refine X_callVi (rest := []) Γ d_H_take_2 (m_H_has l D cI cZ cB cM a hJ P G x1) (by decide) kC_H rfl rfl w320 w322 s_H_has w4 w323 e_H_has ⟨by decide, by decide⟩ ⟨rfl, rfl⟩ rfl rfl (Nat.le_of_ble_eq_true rfl) rfl ?_
  refine X_if_ne (tgt := 10) Γ d_H_take_5 (by decide) rfl (fun h5 => ?_) (fun h5 => ?_)
  · replace E := E.trans (if_neg h5)
    refine X_aload_n Γ d_H_take_10 rfl 0 rfl rfl ?_
    refine X_get Γ d_H_take_11 (by decide) kC_H rfl in_H 0 (by decide) w111 rfl rfl rfl ?_
    refine X_iload_n Γ d_H_take_14 rfl 1 rfl rfl ?_
    refine X_aald Γ d_H_take_15 (by decide) kC_MA 3 rfl (hhas_in hc h5) rfl rfl ?_
    refine X_astore_n Γ d_H_take_16 rfl (by decide) rfl rfl ?_
    refine X_iload_n Γ d_H_take_17 rfl 2 rfl rfl ?_
    refine X_istore_n Γ d_H_take_18 rfl (by decide) rfl rfl ?_
    have J19 : ∀ (k19 : Nat) (v3_19 : Int32) (Gv19 : Nat → Nat → Int32) (Pv19 : Nat → Nat), (9 - v3_19.toInt < k19 ∧ 0 ≤ v3_19.toInt ∧ v3_19.toInt ≤ 8 ∧ ∀ j : Nat, j < 9 → Pv19 j < 9) → f_H_take x1 G P = f_H_take_19 x1 G P k19 v3_19 Gv19 Pv19 → X Y s m D xcl 56 a 4 (kg (kC cI cB cM a Pv19) Gv19) 19 [(0, .ref (a 27)), (1, .int x1), (2, .ref (a (29 + P x1.toNatClampNeg))), (3, .int v3_19)] [] := by
      intro k19
      induction k19 with
      | zero => exact fun v3_19 Gv19 Pv19 hI19 _ => absurd hI19 (fun h => by omega)
      | succ k19 ih19 =>
        intro v3_19 Gv19 Pv19 hI19 E
        rw [f_H_take_19] at E
        refine X_iload_n Γ d_H_take_19 rfl 3 rfl rfl ?_
        refine X_bipush (v := 8) Γ d_H_take_20 (by decide) rfl ?_
        refine X_icmp_ge (tgt := 45) Γ d_H_take_22 (by decide) rfl (fun h22 => ?_) (fun h22 => ?_)
        · replace E := E.trans (if_pos h22)
          refine X_aload_n Γ d_H_take_45 rfl 0 rfl rfl ?_
          refine X_get Γ d_H_take_46 (by decide) kC_H rfl in_H 0 (by decide) w111 rfl rfl rfl ?_
          refine X_bipush (v := 8) Γ d_H_take_49 (by decide) rfl ?_
          refine X_aload_n Γ d_H_take_51 rfl 2 rfl rfl ?_
          refine X_aast (K' := (kC cI cB cM a (va_up Pv19 8 (P x1.toNatClampNeg)))) Γ d_H_take_52 (by decide) kC_MA 3 rfl (Nat.lt_of_lt_of_le (Nat.add_lt_add_left (hP9 _ (vp_lt (hhas_in hc h5))) 29) (by decide : 38 ≤ 56)) (kC_G (Nat.le_add_right 29 _) (Nat.add_lt_add_left (hP9 _ (vp_lt (hhas_in hc h5))) 29)) rfl in8_9 (kC_P) (kC_Pu) rfl ?_
          refine X_aload_n Γ d_H_take_53 rfl 0 rfl rfl ?_
          refine X_dup Γ d_H_take_54 rfl rfl ?_
          refine X_get Γ d_H_take_55 (by decide) kC_H rfl in_H 1 (by decide) w113 rfl rfl rfl ?_
          refine X_iconst (v := 1) Γ d_H_take_58 (by decide) rfl ?_
          refine X_isub Γ d_H_take_59 rfl ?_
          refine X_put (ty := .int) Γ d_H_take_60 (by decide) kC_H rfl in_H 1 (by decide) w113 rfl ty_H ty_H_ok nm_H rfl (by decide +kernel) rfl rfl (Nat.le_of_ble_eq_true rfl) kp_H_1 rfl ?_
          refine X_aload_n Γ d_H_take_63 rfl 2 rfl rfl ?_
          exact X_aret (x := some (a (29 + P x1.toNatClampNeg))) Γ d_H_take_64 rfl (congrArg (Option.map a) (congrArg Prod.fst E)).symm (congrArg (fun q => kg (kC cI cB cM a q.2.2) q.2.1) E).symm
        · replace E := E.trans (if_neg h22)
          refine X_aload_n Γ d_H_take_25 rfl 0 rfl rfl ?_
          refine X_get Γ d_H_take_26 (by decide) kC_H rfl in_H 0 (by decide) w111 rfl rfl rfl ?_
          refine X_iload_n Γ d_H_take_29 rfl 3 rfl rfl ?_
          refine X_aload_n Γ d_H_take_30 rfl 0 rfl rfl ?_
          refine X_get Γ d_H_take_31 (by decide) kC_H rfl in_H 0 (by decide) w111 rfl rfl rfl ?_
          refine X_iload_n Γ d_H_take_34 rfl 3 rfl rfl ?_
          refine X_iconst (v := 1) Γ d_H_take_35 (by decide) rfl ?_
          refine X_iadd Γ d_H_take_36 rfl ?_
          refine X_aald Γ d_H_take_37 (by decide) kC_MA 3 rfl (tk_in1 hI19 h22) rfl rfl ?_
          refine X_aast (K' := (kC cI cB cM a (va_up Pv19 v3_19.toNatClampNeg (Pv19 (v3_19 + 1).toNatClampNeg)))) Γ d_H_take_38 (by decide) kC_MA 3 rfl (Nat.lt_of_lt_of_le (Nat.add_lt_add_left (hI19.2.2.2 _ (vp_lt (tk_in1 hI19 h22))) 29) (by decide : 38 ≤ 56)) (kC_G (Nat.le_add_right 29 _) (Nat.add_lt_add_left (hI19.2.2.2 _ (vp_lt (tk_in1 hI19 h22))) 29)) rfl (tk_in hI19 h22) (kC_P) (kC_Pu) rfl ?_
          refine X_iinc (v := (v3_19 + 1)) Γ d_H_take_39 3 rfl rfl (by decide) rfl rfl ?_
          refine X_goto (pc' := 19) Γ d_H_take_42 (by decide) ?_
          refine X_loc [1, 2, 3, 0] rfl ?_
          exact ih19 (v3_19 + 1) Gv19 (va_up Pv19 v3_19.toNatClampNeg (Pv19 (v3_19 + 1).toNatClampNeg)) (tk_step hI19 h22) E
    refine X_loc [2, 3, 1, 0] rfl ?_
    exact J19 10 x1 G P (tk_init hc h5 hP9) E
  · replace E := E.trans (if_pos h5)
    refine X_null Γ d_H_take_8 rfl ?_
    exact X_aret (x := none) Γ d_H_take_9 rfl (congrArg (Option.map a) (congrArg Prod.fst E)).symm (congrArg (fun q => kg (kC cI cB cM a q.2.2) q.2.1) E).symm
def f_H_send (x1 : Int32) (n2_ : Nat) (x3 : Int32) (x4 : Int32) (x5 : Int32) (x6 : Int32) (G : Nat → Nat → Int32) (P : Nat → Nat) : Option Nat × (Nat → Nat → Int32) := (if (G 27 1) < 8 then (jn (g2 (g2 (g2 (g2 (g2 G 27 1 ((G 27 1) + 1)) (29 + P (G 27 1).toNatClampNeg) 2 x1) (29 + P (G 27 1).toNatClampNeg) 3 ((g2 (g2 G 27 1 ((G 27 1) + 1)) (29 + P (G 27 1).toNatClampNeg) 2 x1) n2_ 0)) (29 + P (G 27 1).toNatClampNeg) 4 x3) (29 + P (G 27 1).toNatClampNeg) 5 ((g2 (g2 (g2 (g2 G 27 1 ((G 27 1) + 1)) (29 + P (G 27 1).toNatClampNeg) 2 x1) (29 + P (G 27 1).toNatClampNeg) 3 ((g2 (g2 G 27 1 ((G 27 1) + 1)) (29 + P (G 27 1).toNatClampNeg) 2 x1) n2_ 0)) (29 + P (G 27 1).toNatClampNeg) 4 x3) n2_ 5)) (fun (G1 : Nat → Nat → Int32) => (some (29 + P (G 27 1).toNatClampNeg), (g2 (g2 (g2 G1 (29 + P (G 27 1).toNatClampNeg) 6 x4) (29 + P (G 27 1).toNatClampNeg) 7 x5) (29 + P (G 27 1).toNatClampNeg) 8 x6)))) else (none, G))
theorem e_H_send : y_H_send.cls ≠ "java/lang/invoke/MethodHandle" ∧ y_H_send.cls ≠ "java/lang/invoke/VarHandle" ∧ (parseMethodDescriptor y_H_send.desc).map (fun d => d.parameters.length) = some 6 := by decide +kernel
set_option maxHeartbeats 4000000 in
set_option maxRecDepth 100000 in
theorem m_H_send (l : Launch) (D : va_G) (cI cZ cB cM : ClassId) (a : Nat → Nat) (hJ : xJ 56 a) (P : Nat → Nat) (G : Nat → Nat → Int32) (x1 : Int32) (n2_ : Nat) (n2_1 : 2 ≤ n2_) (n2_2 : n2_ < 6) (x3 : Int32) (x4 : Int32) (x5 : Int32) (x6 : Int32) (hP9 : ∀ j, j < 9 → P j < 9) (hc : okH G) : Met l y_H_send (Cond.code y_H_send prog_3_method_4_code 8 (Option.some (FieldType.object "InSyncLog$Message")) :: wsBig) { frames := 0, cells := 0, slots := 0, locals := 0 } (xP D xcl (xty cI cZ cB cM) 56 a (kg (kC cI cB cM a P) G) [.ref (a 27), .int x1, .ref (a n2_), .int x3, .int x4, .int x5, .int x6]) (xQq D xcl 56 a (((f_H_send x1 n2_ x3 x4 x5 x6 G P).1).map a) (kg (kC cI cB cM a P) ((f_H_send x1 n2_ x3 x4 x5 x6 G P).2))) 0 0 (xA 56 a) := by
  refine X_met (by decide) rfl (Nat.le_of_ble_eq_true rfl) hJ (fun Y s m args Γ => ?_)
  show X Y s m D xcl 56 a 8 (kg (kC cI cB cM a P) G) 0 [(0, .ref (a 27)), (1, .int x1), (2, .ref (a n2_)), (3, .int x3), (4, .int x4), (5, .int x5), (6, .int x6)] []
  have E := f_H_send.eq_1 x1 n2_ x3 x4 x5 x6 G P
  refine X_aload_n Γ d_H_send_0 rfl 0 rfl rfl ?_
  refine X_get Γ d_H_send_1 (by decide) kC_H rfl in_H 1 (by decide) w113 rfl rfl rfl ?_
  refine X_bipush (v := 8) Γ d_H_send_4 (by decide) rfl ?_
  refine X_icmp_lt (tgt := 11) Γ d_H_send_6 (by decide) rfl (fun h6 => ?_) (fun h6 => ?_)
  · replace E := E.trans (if_pos h6)
    refine X_aload_n Γ d_H_send_11 rfl 0 rfl rfl ?_
    refine X_get Γ d_H_send_12 (by decide) kC_H rfl in_H 0 (by decide) w111 rfl rfl rfl ?_
    refine X_aload_n Γ d_H_send_15 rfl 0 rfl rfl ?_
    refine X_get Γ d_H_send_16 (by decide) kC_H rfl in_H 1 (by decide) w113 rfl rfl rfl ?_
    refine X_aald Γ d_H_send_19 (by decide) kC_MA 3 rfl (cnt_in hc h6) rfl rfl ?_
    refine X_astore Γ d_H_send_20 (by decide) rfl rfl ?_
    refine X_aload_n Γ d_H_send_22 rfl 1 rfl rfl ?_
    refine X_dup Γ d_H_send_23 rfl rfl ?_
    refine X_get Γ d_H_send_24 (by decide) kC_H rfl in_H 1 (by decide) w113 rfl rfl rfl ?_
    refine X_iconst (v := 1) Γ d_H_send_27 (by decide) rfl ?_
    refine X_iadd Γ d_H_send_28 rfl ?_
    refine X_put (ty := .int) Γ d_H_send_29 (by decide) kC_H rfl in_H 1 (by decide) w113 rfl ty_H ty_H_ok nm_H rfl (by decide +kernel) rfl rfl (Nat.le_of_ble_eq_true rfl) kp_H_1 rfl ?_
    refine X_aload Γ d_H_send_32 0 rfl rfl ?_
    refine X_iload_n Γ d_H_send_34 rfl 2 rfl rfl ?_
    refine X_putN (ty := .int) Γ d_H_send_35 (Nat.lt_of_lt_of_le (Nat.add_lt_add_left (hP9 _ (vp_lt (cnt_in hc h6))) 29) (by decide : 38 ≤ 56)) (kC_G (Nat.le_add_right 29 _) (Nat.add_lt_add_left (hP9 _ (vp_lt (cnt_in hc h6))) 29)) rfl in_G 2 (by decide) w66 rfl ty_G ty_G_ok nm_G rfl (by decide +kernel) rfl rfl (Nat.le_of_ble_eq_true rfl) (kp_G_2 (Nat.le_add_right 29 _) (Nat.add_lt_add_left (hP9 _ (vp_lt (cnt_in hc h6))) 29)) rfl ?_
    refine X_aload Γ d_H_send_38 0 rfl rfl ?_
    refine X_aload_n Γ d_H_send_40 rfl 3 rfl rfl ?_
    refine X_getN Γ d_H_send_41 (Nat.lt_of_lt_of_le n2_2 (by decide : 6 ≤ 56)) (kC_B n2_1 n2_2) rfl in_B 0 (by decide) w149 rfl rfl rfl ?_
    refine X_putN (ty := .int) Γ d_H_send_44 (Nat.lt_of_lt_of_le (Nat.add_lt_add_left (hP9 _ (vp_lt (cnt_in hc h6))) 29) (by decide : 38 ≤ 56)) (kC_G (Nat.le_add_right 29 _) (Nat.add_lt_add_left (hP9 _ (vp_lt (cnt_in hc h6))) 29)) rfl in_G 3 (by decide) w70 rfl ty_G ty_G_ok nm_G rfl (by decide +kernel) rfl rfl (Nat.le_of_ble_eq_true rfl) (kp_G_3 (Nat.le_add_right 29 _) (Nat.add_lt_add_left (hP9 _ (vp_lt (cnt_in hc h6))) 29)) rfl ?_
    refine X_aload Γ d_H_send_47 0 rfl rfl ?_
    refine X_iload_n Γ d_H_send_49 rfl 4 rfl rfl ?_
    refine X_putN (ty := .int) Γ d_H_send_50 (Nat.lt_of_lt_of_le (Nat.add_lt_add_left (hP9 _ (vp_lt (cnt_in hc h6))) 29) (by decide : 38 ≤ 56)) (kC_G (Nat.le_add_right 29 _) (Nat.add_lt_add_left (hP9 _ (vp_lt (cnt_in hc h6))) 29)) rfl in_G 4 (by decide) w73 rfl ty_G ty_G_ok nm_G rfl (by decide +kernel) rfl rfl (Nat.le_of_ble_eq_true rfl) (kp_G_4 (Nat.le_add_right 29 _) (Nat.add_lt_add_left (hP9 _ (vp_lt (cnt_in hc h6))) 29)) rfl ?_
    refine X_aload Γ d_H_send_53 0 rfl rfl ?_
    refine X_aload_n Γ d_H_send_55 rfl 3 rfl rfl ?_
    refine X_getN Γ d_H_send_56 (Nat.lt_of_lt_of_le n2_2 (by decide : 6 ≤ 56)) (kC_B n2_1 n2_2) rfl in_B 5 (by decide) w158 rfl rfl rfl ?_
    refine X_putN (ty := .int) Γ d_H_send_59 (Nat.lt_of_lt_of_le (Nat.add_lt_add_left (hP9 _ (vp_lt (cnt_in hc h6))) 29) (by decide : 38 ≤ 56)) (kC_G (Nat.le_add_right 29 _) (Nat.add_lt_add_left (hP9 _ (vp_lt (cnt_in hc h6))) 29)) rfl in_G 5 (by decide) w76 rfl ty_G ty_G_ok nm_G rfl (by decide +kernel) rfl rfl (Nat.le_of_ble_eq_true rfl) (kp_G_5 (Nat.le_add_right 29 _) (Nat.add_lt_add_left (hP9 _ (vp_lt (cnt_in hc h6))) 29)) rfl ?_
    refine jn_open E (fun G1 eG1 E => ?_)
    rw [← eG1]
    refine X_aload Γ d_H_send_62 0 rfl rfl ?_
    refine X_iload Γ d_H_send_64 5 rfl rfl ?_
    refine X_putN (ty := .int) Γ d_H_send_66 (Nat.lt_of_lt_of_le (Nat.add_lt_add_left (hP9 _ (vp_lt (cnt_in hc h6))) 29) (by decide : 38 ≤ 56)) (kC_G (Nat.le_add_right 29 _) (Nat.add_lt_add_left (hP9 _ (vp_lt (cnt_in hc h6))) 29)) rfl in_G 6 (by decide) w80 rfl ty_G ty_G_ok nm_G rfl (by decide +kernel) rfl rfl (Nat.le_of_ble_eq_true rfl) (kp_G_6 (Nat.le_add_right 29 _) (Nat.add_lt_add_left (hP9 _ (vp_lt (cnt_in hc h6))) 29)) rfl ?_
    refine X_aload Γ d_H_send_69 0 rfl rfl ?_
    refine X_iload Γ d_H_send_71 6 rfl rfl ?_
    refine X_putN (ty := .int) Γ d_H_send_73 (Nat.lt_of_lt_of_le (Nat.add_lt_add_left (hP9 _ (vp_lt (cnt_in hc h6))) 29) (by decide : 38 ≤ 56)) (kC_G (Nat.le_add_right 29 _) (Nat.add_lt_add_left (hP9 _ (vp_lt (cnt_in hc h6))) 29)) rfl in_G 7 (by decide) w84 rfl ty_G ty_G_ok nm_G rfl (by decide +kernel) rfl rfl (Nat.le_of_ble_eq_true rfl) (kp_G_7 (Nat.le_add_right 29 _) (Nat.add_lt_add_left (hP9 _ (vp_lt (cnt_in hc h6))) 29)) rfl ?_
    refine X_aload Γ d_H_send_76 0 rfl rfl ?_
    refine X_iload Γ d_H_send_78 7 rfl rfl ?_
    refine X_putN (ty := .int) Γ d_H_send_80 (Nat.lt_of_lt_of_le (Nat.add_lt_add_left (hP9 _ (vp_lt (cnt_in hc h6))) 29) (by decide : 38 ≤ 56)) (kC_G (Nat.le_add_right 29 _) (Nat.add_lt_add_left (hP9 _ (vp_lt (cnt_in hc h6))) 29)) rfl in_G 8 (by decide) w88 rfl ty_G ty_G_ok nm_G rfl (by decide +kernel) rfl rfl (Nat.le_of_ble_eq_true rfl) (kp_G_8 (Nat.le_add_right 29 _) (Nat.add_lt_add_left (hP9 _ (vp_lt (cnt_in hc h6))) 29)) rfl ?_
    refine X_aload Γ d_H_send_83 0 rfl rfl ?_
    exact X_aret (x := some (a (29 + P (G 27 1).toNatClampNeg))) Γ d_H_send_85 rfl (congrArg (Option.map a) (congrArg Prod.fst E)).symm (congrArg (fun q => kg _ q.2) E).symm
  · replace E := E.trans (if_neg h6)
    refine X_null Γ d_H_send_9 rfl ?_
    exact X_aret (x := none) Γ d_H_send_10 rfl (congrArg (Option.map a) (congrArg Prod.fst E)).symm (congrArg (fun q => kg _ q.2) E).symm
theorem take_19 {x1 : Int32} {G : Nat → Nat → Int32} {P : Nat → Nat} : ∀ (k : Nat) (v : Int32) (Gv : Nat → Nat → Int32) (Pv : Nat → Nat), (9 - v.toInt < (k : Int) ∧ 0 ≤ v.toInt ∧ v.toInt ≤ 8 ∧ ∀ j : Nat, j < 9 → Pv j < 9) → P x1.toNatClampNeg < 9 → (f_H_take_19 x1 G P k v Gv Pv).1 = some (29 + P x1.toNatClampNeg) ∧ (f_H_take_19 x1 G P k v Gv Pv).2.1 = g2 Gv 27 1 (Gv 27 1 - 1) ∧ ∀ j : Nat, j < 9 → (f_H_take_19 x1 G P k v Gv Pv).2.2 j < 9 := by
  intro k
  induction k with
  | zero => intro v Gv Pv h; exact absurd h (fun h => by omega)
  | succ k ih =>
    intro v Gv Pv hI hx
    rw [f_H_take_19]
    by_cases h : 8 ≤ v
    · rw [if_pos h]
      exact ⟨rfl, rfl, va_up_lt hI.2.2.2 hx⟩
    · rw [if_neg h]
      exact ih _ _ _ (tk_step hI h) hx
theorem take_some {x1 : Int32} {G : Nat → Nat → Int32} {P : Nat → Nat} (hP : ∀ j : Nat, j < 9 → P j < 9) (hc : okH G) (h : ¬ (f_H_take x1 G P).1 = none) : ¬ f_H_has x1 G = 0 := by
  intro q
  apply h
  unfold f_H_take
  rw [if_pos q]
theorem take_fact {x1 : Int32} {G : Nat → Nat → Int32} {P : Nat → Nat} (hP : ∀ j : Nat, j < 9 → P j < 9) (hc : okH G) (h : ¬ f_H_has x1 G = 0) : (f_H_take x1 G P).1 = some (29 + P x1.toNatClampNeg) ∧ (f_H_take x1 G P).2.1 = g2 G 27 1 (G 27 1 - 1) ∧ ∀ j : Nat, j < 9 → (f_H_take x1 G P).2.2 j < 9 := by
  unfold f_H_take
  rw [if_neg h]
  exact take_19 10 x1 G P (tk_init hc h hP) (hP _ (vp_lt (hhas_in hc h)))
theorem tk_num {x1 : Int32} {G : Nat → Nat → Int32} {P : Nat → Nat} (hP : ∀ j : Nat, j < 9 → P j < 9) (hc : okH G) (h : ¬ (f_H_take x1 G P).1 = none) : (f_H_take x1 G P).1.getD 0 = 29 + P x1.toNatClampNeg := by
  rw [(take_fact hP hc (take_some hP hc h)).1]
  rfl
theorem tk_lo {x1 : Int32} {G : Nat → Nat → Int32} {P : Nat → Nat} (hP : ∀ j : Nat, j < 9 → P j < 9) (hc : okH G) (h : ¬ (f_H_take x1 G P).1 = none) : 29 ≤ (f_H_take x1 G P).1.getD 0 := by
  rw [tk_num hP hc h]
  exact Nat.le_add_right 29 _
theorem tk_hi {x1 : Int32} {G : Nat → Nat → Int32} {P : Nat → Nat} (hP : ∀ j : Nat, j < 9 → P j < 9) (hc : okH G) (h : ¬ (f_H_take x1 G P).1 = none) : (f_H_take x1 G P).1.getD 0 < 38 := by
  rw [tk_num hP hc h]
  have := hP _ (vp_lt (hhas_in hc (take_some hP hc h)))
  omega
theorem tk_ne {x1 : Int32} {G : Nat → Nat → Int32} {P : Nat → Nat} {i : Nat} (hP : ∀ j : Nat, j < 9 → P j < 9) (hc : okH G) (hi : i ≠ 27) : (f_H_take x1 G P).2.1 i = G i := by
  by_cases h : f_H_has x1 G = 0
  · unfold f_H_take
    rw [if_pos h]
  · rw [(take_fact hP hc h).2.1, g2_ne _ _ _ hi]
theorem tk_to {x1 : Int32} {G : Nat → Nat → Int32} {P : Nat → Nat} (hM : ∀ j : Nat, j < 9 → vp_in (G (29 + j) 4) 4 ∧ vp_in (G (29 + j) 3) 4) (hP : ∀ j : Nat, j < 9 → P j < 9) (hc : okH G) (h : ¬ (f_H_take x1 G P).1 = none) : vp_in ((f_H_take x1 G P).2.1 ((f_H_take x1 G P).1.getD 0) 4) 4 := by
  have hj := hP _ (vp_lt (hhas_in hc (take_some hP hc h)))
  rw [tk_num hP hc h, tk_ne hP hc (by omega)]
  exact (hM _ hj).1
theorem tk_from {x1 : Int32} {G : Nat → Nat → Int32} {P : Nat → Nat} (hM : ∀ j : Nat, j < 9 → vp_in (G (29 + j) 4) 4 ∧ vp_in (G (29 + j) 3) 4) (hP : ∀ j : Nat, j < 9 → P j < 9) (hc : okH G) (h : ¬ (f_H_take x1 G P).1 = none) : vp_in ((f_H_take x1 G P).2.1 ((f_H_take x1 G P).1.getD 0) 3) 4 := by
  have hj := hP _ (vp_lt (hhas_in hc (take_some hP hc h)))
  rw [tk_num hP hc h, tk_ne hP hc (by omega)]
  exact (hM _ hj).2
theorem tk_P9 {x1 : Int32} {G : Nat → Nat → Int32} {P : Nat → Nat} (hP : ∀ j : Nat, j < 9 → P j < 9) (hc : okH G) : ∀ j : Nat, j < 9 → (f_H_take x1 G P).2.2 j < 9 := by
  by_cases h : f_H_has x1 G = 0
  · unfold f_H_take
    rw [if_pos h]
    exact hP
  · exact (take_fact hP hc h).2.2
theorem tk_okH {x1 : Int32} {G : Nat → Nat → Int32} {P : Nat → Nat} (hP : ∀ j : Nat, j < 9 → P j < 9) (hc : okH G) : okH (f_H_take x1 G P).2.1 := by
  by_cases h : f_H_has x1 G = 0
  · unfold f_H_take
    rw [if_pos h]
    exact hc
  · rw [(take_fact hP hc h).2.1]
    have h1 := hhas_lt h
    have h2 := hc
    unfold okH at h2 ⊢
    rw [g2_at, i_sub (by rw [i1]; omega) (by rw [i1]; omega), i1]
    omega
theorem tk_okL {x1 : Int32} {G : Nat → Nat → Int32} {P : Nat → Nat} {n : Nat} (hP : ∀ j : Nat, j < 9 → P j < 9) (hc : okH G) (hn : n ≠ 27) (h : okL G n) : okL (f_H_take x1 G P).2.1 n := okL_of h (tk_ne hP hc hn)
/-! send -/
theorem send_some {x1 x3 x4 x5 x6 : Int32} {n : Nat} {G : Nat → Nat → Int32} {P : Nat → Nat} (h : ¬ (f_H_send x1 n x3 x4 x5 x6 G P).1 = none) : G 27 1 < 8 := by
  by_cases q : G 27 1 < 8
  · exact q
  · exfalso
    apply h
    unfold f_H_send
    rw [if_neg q]
theorem send_num {x1 x3 x4 x5 x6 : Int32} {n : Nat} {G : Nat → Nat → Int32} {P : Nat → Nat} (h : ¬ (f_H_send x1 n x3 x4 x5 x6 G P).1 = none) : (f_H_send x1 n x3 x4 x5 x6 G P).1.getD 0 = 29 + P (G 27 1).toNatClampNeg := by
  have q := send_some h
  unfold f_H_send
  rw [if_pos q]
  rfl
theorem sd_lo {x1 x3 x4 x5 x6 : Int32} {n : Nat} {G : Nat → Nat → Int32} {P : Nat → Nat} (h : ¬ (f_H_send x1 n x3 x4 x5 x6 G P).1 = none) : 29 ≤ (f_H_send x1 n x3 x4 x5 x6 G P).1.getD 0 := by
  rw [send_num h]
  exact Nat.le_add_right 29 _
theorem sd_hi {x1 x3 x4 x5 x6 : Int32} {n : Nat} {G : Nat → Nat → Int32} {P : Nat → Nat} (hP : ∀ j : Nat, j < 9 → P j < 9) (hc : okH G) (h : ¬ (f_H_send x1 n x3 x4 x5 x6 G P).1 = none) : (f_H_send x1 n x3 x4 x5 x6 G P).1.getD 0 < 38 := by
  rw [send_num h]
  have := hP _ (vp_lt (cnt_in hc (send_some h)))
  omega
theorem send_ne {x1 x3 x4 x5 x6 : Int32} {n i : Nat} {G : Nat → Nat → Int32} {P : Nat → Nat} (h0 : i ≠ 27) (h1 : i < 29) : (f_H_send x1 n x3 x4 x5 x6 G P).2 i = G i := by
  unfold f_H_send
  by_cases q : G 27 1 < 8
  · rw [if_pos q]
    simp only [jn]
    repeat rw [g2_ne _ _ _ (by omega)]
  · rw [if_neg q]
theorem okL_sd {x1 x3 x4 x5 x6 : Int32} {n m : Nat} {G : Nat → Nat → Int32} {P : Nat → Nat} (h : okL G (m + 4)) (_m1 : 2 ≤ m) (m2 : m < 6) : okL (f_H_send x1 n x3 x4 x5 x6 G P).2 (m + 4) := okL_of h (send_ne (by omega) (by omega))
