theorem isBM_in {x : Int32} (h : ¬ f_M_isBroker x = 0) : vp_in x 4 := isB_in h
def f_M_leads (x1 : Int32) (G : Nat → Nat → Int32) : Int32 := (if ((f_M_isBroker x1)) = 0 then 0 else (if (G 9 x1.toNatClampNeg) = 0 then 0 else (if (G 11 x1.toNatClampNeg) = x1 then 1 else 0)))
theorem e_M_leads : y_M_leads.cls ≠ "java/lang/invoke/MethodHandle" ∧ y_M_leads.cls ≠ "java/lang/invoke/VarHandle" ∧ (parseMethodDescriptor y_M_leads.desc).map (fun d => d.parameters.length) = some 1 := by decide +kernel
set_option maxHeartbeats 4000000 in
set_option maxRecDepth 100000 in
theorem m_M_leads (l : Launch) (D : va_G) (cI cZ cB cM : ClassId) (a : Nat → Nat) (hJ : xJ 27 a) (G : Nat → Nat → Int32) (x1 : Int32) : Met l y_M_leads (Cond.code y_M_leads prog_8_method_3_code 2 (Option.some FieldType.boolean) :: wsBig) { frames := 1, cells := 0, slots := 0, locals := 20 } (xP D xcl (xty cI cZ cB cM) 27 a (kg (kM cI cZ a) G) [.ref (a 0), .int x1]) (xQi D xcl 27 a (f_M_leads x1 G) (kg (kM cI cZ a) G)) 0 0 (xA 27 a) := by
  refine X_met (by decide) rfl (Nat.le_of_ble_eq_true rfl) hJ (fun Y s m args Γ => ?_)
  show X Y s m D xcl 27 a 2 (kg (kM cI cZ a) G) 0 [(0, .ref (a 0)), (1, .int x1)] []
  have E := f_M_leads.eq_1 x1 G
  refine X_iload_n Γ d_M_leads_0 rfl 1 rfl rfl ?_
  refine X_callSi (rest := []) Γ d_M_leads_1 (m_M_isBroker l D _ _ _ _ hJ _ _ x1) w592 w593 w9 w594 e_M_isBroker ⟨by decide, by decide⟩ ⟨rfl, rfl⟩ rfl rfl (Nat.le_of_ble_eq_true rfl) rfl ?_
  refine X_if_eq (tgt := 30) Γ d_M_leads_4 (by decide) rfl (fun h4 => ?_) (fun h4 => ?_)
  · replace E := E.trans (if_pos h4)
    refine X_iconst (v := 0) Γ d_M_leads_30 (by decide) rfl ?_
    exact X_iretz Γ d_M_leads_31 rfl E.symm rfl
  · replace E := E.trans (if_neg h4)
    refine X_aload_n Γ d_M_leads_7 rfl 0 rfl rfl ?_
    refine X_get Γ d_M_leads_8 (by decide) rfl rfl in_M 15 (by decide) w495 rfl rfl rfl ?_
    refine X_iload_n Γ d_M_leads_11 rfl 1 rfl rfl ?_
    refine X_zald (v := (G 9 x1.toNatClampNeg)) Γ d_M_leads_12 (by decide) rfl 1 rfl (isBM_in h4) rfl rfl ?_
    refine X_if_eq (tgt := 30) Γ d_M_leads_13 (by decide) rfl (fun h13 => ?_) (fun h13 => ?_)
    · replace E := E.trans (if_pos h13)
      refine X_iconst (v := 0) Γ d_M_leads_30 (by decide) rfl ?_
      exact X_iretz Γ d_M_leads_31 rfl E.symm rfl
    · replace E := E.trans (if_neg h13)
      refine X_aload_n Γ d_M_leads_16 rfl 0 rfl rfl ?_
      refine X_get Γ d_M_leads_17 (by decide) rfl rfl in_M 17 (by decide) w497 rfl rfl rfl ?_
      refine X_iload_n Γ d_M_leads_20 rfl 1 rfl rfl ?_
      refine X_iald (v := (G 11 x1.toNatClampNeg)) Γ d_M_leads_21 (by decide) rfl 0 rfl (isBM_in h4) rfl rfl ?_
      refine X_iload_n Γ d_M_leads_22 rfl 1 rfl rfl ?_
      refine X_icmp_ne (tgt := 30) Γ d_M_leads_23 (by decide) rfl (fun h23 => ?_) (fun h23 => ?_)
      · replace E := E.trans (if_neg h23)
        refine X_iconst (v := 0) Γ d_M_leads_30 (by decide) rfl ?_
        exact X_iretz Γ d_M_leads_31 rfl E.symm rfl
      · replace E := E.trans (if_pos h23)
        refine X_iconst (v := 1) Γ d_M_leads_26 (by decide) rfl ?_
        refine X_goto (pc' := 31) Γ d_M_leads_27 (by decide) ?_
        exact X_iretz Γ d_M_leads_31 rfl E.symm rfl
/-! The reference's numbers: places in range, truth values, the tree of records. -/
def zb (x : Int32) : Prop := x = 0 ∨ x = 1
theorem zb_nar {x : Int32} (h : zb x) : vp_nar .boolean x = x := by
  rcases h with rfl | rfl <;> decide +kernel
theorem lt0 {x : Int32} (h : ¬ x < 0) : 0 ≤ x.toInt := by
  rw [i_lt, i0] at h
  omega
theorem in0_4 : vp_in 0 4 := by rw [vp_in_iff, i0]; omega
theorem in0_8 : vp_in 0 8 := by rw [vp_in_iff, i0]; omega
theorem in1_8 : vp_in 1 8 := by rw [vp_in_iff, i1]; omega
theorem in2_8 : vp_in 2 8 := by rw [vp_in_iff, show (2 : Int32).toInt = 2 by decide]; omega
theorem in3_8 : vp_in 3 8 := by rw [vp_in_iff, i3]; omega
theorem in4_8 : vp_in 4 8 := by rw [vp_in_iff, i4]; omega
theorem in5_8 : vp_in 5 8 := by rw [vp_in_iff, show (5 : Int32).toInt = 5 by decide]; omega
theorem in6_8 : vp_in 6 8 := by rw [vp_in_iff, show (6 : Int32).toInt = 6 by decide]; omega
theorem in7_8 : vp_in 7 8 := by rw [vp_in_iff, show (7 : Int32).toInt = 7 by decide]; omega
theorem in0_520 : vp_in 0 520 := by rw [vp_in_iff, i0]; omega
theorem in7w {x : Int32} (h : vp_in x 7) : vp_in x 8 := by
  rw [vp_in_iff] at h ⊢
  omega
theorem at16 {b f : Int32} (hb : vp_in b 4) (hf : vp_in f 4) : vp_in (4 * b + f) 16 := by
  obtain ⟨i, hi, rfl⟩ := vp_in_of hb (by decide)
  obtain ⟨j, hj, rfl⟩ := vp_in_of hf (by decide)
  rw [show (4 : Int32) = nI 4 by decide, pk_mul, nI_add]
  exact vp_in_nI (by omega) (by decide)
theorem isLM_in {x : Int32} {G : Nat → Nat → Int32} (h : ¬ f_M_leads x G = 0) : vp_in x 4 := by
  apply isBM_in
  intro q
  apply h
  unfold f_M_leads
  rw [if_pos q]
/-- every broker's last record is a node; a node's elder has a lesser number; the root has depth 0 -/
def okT (G : Nat → Nat → Int32) : Prop := (∀ j : Nat, j < 4 → vp_in (G 7 j) 520) ∧ (∀ x : Nat, x < 520 → 0 < x → 0 ≤ (G 2 x).toInt ∧ (G 2 x).toInt < (x : Int)) ∧ G 3 0 = 0
def same3 (G G' : Nat → Nat → Int32) : Prop := G' 7 = G 7 ∧ G' 2 = G 2 ∧ G' 3 = G 3
theorem okT_of3 {G G' : Nat → Nat → Int32} (h : okT G) (e : same3 G G') : okT G' := by
  obtain ⟨e1, e2, e3⟩ := e
  unfold okT
  rw [e1, e2, e3]
  exact h
theorem in521 {x : Int32} (h : vp_in x 520) : vp_in x 520 ∧ x.toInt < ((521 : Nat) : Int) := by
  have h1 := vp_in_iff.mp h
  exact ⟨h, by omega⟩
theorem cl_of {x : Int32} (h : 0 ≤ x.toInt) : (x.toNatClampNeg : Int) = x.toInt := by
  show ((x.toInt.toNat : Nat) : Int) = x.toInt
  omega
theorem bf_step {v : Int32} {k : Nat} {G : Nat → Nat → Int32} (hT : okT G) (hI : vp_in v 520 ∧ v.toInt < ((k + 1 : Nat) : Int)) (h : 0 < v.toInt) : vp_in (G 2 v.toNatClampNeg) 520 ∧ (G 2 v.toNatClampNeg).toInt < (k : Int) := by
  have h1 := vp_in_iff.mp hI.1
  have h2 := cl_of (x := v) (by omega)
  have h3 := hT.2.1 v.toNatClampNeg (by omega) (by omega)
  rw [vp_in_iff]
  omega
theorem ue_step {v : Int32} {k : Nat} {G : Nat → Nat → Int32} (hT : okT G) (hI : vp_in v 520 ∧ v.toInt < ((k + 1 : Nat) : Int)) (h : ¬ v ≤ 0) : vp_in (G 2 v.toNatClampNeg) 520 ∧ (G 2 v.toNatClampNeg).toInt < (k : Int) := by
  rw [i_le, i0] at h
  exact bf_step hT hI (by omega)
theorem ut_step {v n : Int32} {k : Nat} {G : Nat → Nat → Int32} (hT : okT G) (hn : 0 ≤ n.toInt) (hI : vp_in v 520 ∧ v.toInt < ((k + 1 : Nat) : Int)) (h : ¬ G 3 v.toNatClampNeg ≤ n) : vp_in (G 2 v.toNatClampNeg) 520 ∧ (G 2 v.toNatClampNeg).toInt < (k : Int) := by
  have h1 := vp_in_iff.mp hI.1
  refine bf_step hT hI ?_
  rcases Int.lt_or_eq_of_le h1.1 with q | q
  · exact q
  · exfalso
    apply h
    have : v.toNatClampNeg = 0 := by have := cl_of (x := v) (by omega); omega
    rw [this, hT.2.2, i_le, i0]
    exact hn
def f_M_takeOver_19 (x1 : Int32) (G : Nat → Nat → Int32) : Nat → Int32 → (Nat → Nat → Int32) → (Nat → Nat → Int32)
  | 0, v2_19, Gv19 => Gv19
  | k19 + 1, v2_19, Gv19 => (if 4 ≤ v2_19 then Gv19 else (f_M_takeOver_19 x1 G k19 (v2_19 + 1) (g2 (g2 (g2 Gv19 14 ((4 * x1) + v2_19).toNatClampNeg (Gv19 1 v2_19.toNatClampNeg)) 15 ((4 * x1) + v2_19).toNatClampNeg (-1)) 16 ((4 * x1) + v2_19).toNatClampNeg (Gv19 0 3))))
def f_M_takeOver (x1 : Int32) (G : Nat → Nat → Int32) : (Nat → Nat → Int32) := (f_M_takeOver_19 x1 G 5 0 (g2 G 17 x1.toNatClampNeg (G 3 (G 7 x1.toNatClampNeg).toNatClampNeg)))
theorem e_M_takeOver : y_M_takeOver.cls ≠ "java/lang/invoke/MethodHandle" ∧ y_M_takeOver.cls ≠ "java/lang/invoke/VarHandle" ∧ (parseMethodDescriptor y_M_takeOver.desc).map (fun d => d.parameters.length) = some 1 := by decide +kernel
set_option maxHeartbeats 4000000 in
set_option maxRecDepth 100000 in
theorem m_M_takeOver (l : Launch) (D : va_G) (cI cZ cB cM : ClassId) (a : Nat → Nat) (hJ : xJ 27 a) (G : Nat → Nat → Int32) (x1 : Int32) (hb : vp_in x1 4) (hT : okT G) (hZ : ∀ j : Nat, j < 4 → zb (G 1 j)) : Met l y_M_takeOver (Cond.code y_M_takeOver prog_8_method_4_code 3 (Option.none : Option FieldType) :: wsBig) { frames := 0, cells := 0, slots := 0, locals := 0 } (xP D xcl (xty cI cZ cB cM) 27 a (kg (kM cI cZ a) G) [.ref (a 0), .int x1]) (xQv D xcl 27 a (kg (kM cI cZ a) (f_M_takeOver x1 G))) 0 0 (xA 27 a) := by
  refine X_met (by decide) rfl (Nat.le_of_ble_eq_true rfl) hJ (fun Y s m args Γ => ?_)
  show X Y s m D xcl 27 a 3 (kg (kM cI cZ a) G) 0 [(0, .ref (a 0)), (1, .int x1)] []
  have E := f_M_takeOver.eq_1 x1 G
  refine X_aload_n Γ d_M_takeOver_0 rfl 0 rfl rfl ?_
  refine X_get Γ d_M_takeOver_1 (by decide) rfl rfl in_M 23 (by decide) w503 rfl rfl rfl ?_
  refine X_iload_n Γ d_M_takeOver_4 rfl 1 rfl rfl ?_
  refine X_aload_n Γ d_M_takeOver_5 rfl 0 rfl rfl ?_
  refine X_get Γ d_M_takeOver_6 (by decide) rfl rfl in_M 9 (by decide) w489 rfl rfl rfl ?_
  refine X_aload_n Γ d_M_takeOver_9 rfl 0 rfl rfl ?_
  refine X_get Γ d_M_takeOver_10 (by decide) rfl rfl in_M 13 (by decide) w493 rfl rfl rfl ?_
  refine X_iload_n Γ d_M_takeOver_13 rfl 1 rfl rfl ?_
  refine X_iald (v := (G 7 x1.toNatClampNeg)) Γ d_M_takeOver_14 (by decide) rfl 0 rfl hb rfl rfl ?_
  refine X_iald (v := (G 3 (G 7 x1.toNatClampNeg).toNatClampNeg)) Γ d_M_takeOver_15 (by decide) rfl 0 rfl (hT.1 _ (vp_lt hb)) rfl rfl ?_
  refine X_iast (kx := x1.toNatClampNeg) Γ d_M_takeOver_16 (by decide) rfl 0 rfl hb (fun _ => rfl) rfl rfl ?_
  refine X_iconst (v := 0) Γ d_M_takeOver_17 (by decide) rfl ?_
  refine X_istore_n Γ d_M_takeOver_18 rfl (by decide) rfl rfl ?_
  have J19 : ∀ (k19 : Nat) (v2_19 : Int32) (Gv19 : Nat → Nat → Int32), (0 < k19 ∧ k19 ≤ 5 ∧ v2_19 = nI (5 - k19) ∧ ∀ j : Nat, j < 4 → zb (Gv19 1 j)) → f_M_takeOver x1 G = f_M_takeOver_19 x1 G k19 v2_19 Gv19 → X Y s m D xcl 27 a 3 (kg (kM cI cZ a) Gv19) 19 [(0, .ref (a 0)), (1, .int x1), (2, .int v2_19)] [] := by
    intro k19
    induction k19 with
    | zero => exact fun v2_19 Gv19 hI19 _ => absurd hI19 (fun h => Nat.lt_irrefl 0 h.1)
    | succ k19 ih19 =>
      intro v2_19 Gv19 hI19 E
      rw [f_M_takeOver_19] at E
      refine X_iload_n Γ d_M_takeOver_19 rfl 2 rfl rfl ?_
      refine X_iconst (v := 4) Γ d_M_takeOver_20 (by decide) rfl ?_
      refine X_icmp_ge (tgt := 71) Γ d_M_takeOver_21 (by decide) rfl (fun h21 => ?_) (fun h21 => ?_)
      · replace E := E.trans (if_pos h21)
        exact X_vret Γ d_M_takeOver_71 (gv_eq E)
      · replace E := E.trans (if_neg h21)
        refine X_aload_n Γ d_M_takeOver_24 rfl 0 rfl rfl ?_
        refine X_get Γ d_M_takeOver_25 (by decide) rfl rfl in_M 20 (by decide) w500 rfl rfl rfl ?_
        refine X_iconst (v := 4) Γ d_M_takeOver_28 (by decide) rfl ?_
        refine X_iload_n Γ d_M_takeOver_29 rfl 1 rfl rfl ?_
        refine X_imul Γ d_M_takeOver_30 rfl ?_
        refine X_iload_n Γ d_M_takeOver_31 rfl 2 rfl rfl ?_
        refine X_iadd Γ d_M_takeOver_32 rfl ?_
        refine X_aload_n Γ d_M_takeOver_33 rfl 0 rfl rfl ?_
        refine X_get Γ d_M_takeOver_34 (by decide) rfl rfl in_M 6 (by decide) w486 rfl rfl rfl ?_
        refine X_iload_n Γ d_M_takeOver_37 rfl 2 rfl rfl ?_
        refine X_zald (v := (Gv19 1 v2_19.toNatClampNeg)) Γ d_M_takeOver_38 (by decide) rfl 1 rfl (lc_in (by decide) (by decide) hI19.2.1 hI19.2.2.1 h21) rfl rfl ?_
        refine X_zast (kx := ((4 * x1) + v2_19).toNatClampNeg) Γ d_M_takeOver_39 (by decide) rfl 1 rfl (at16 hb (lc_in (by decide) (by decide) hI19.2.1 hI19.2.2.1 h21)) (zb_nar (hI19.2.2.2 _ (vp_lt (lc_in (by decide) (by decide) hI19.2.1 hI19.2.2.1 h21)))) (fun _ => rfl) rfl rfl ?_
        refine X_aload_n Γ d_M_takeOver_40 rfl 0 rfl rfl ?_
        refine X_get Γ d_M_takeOver_41 (by decide) rfl rfl in_M 21 (by decide) w501 rfl rfl rfl ?_
        refine X_iconst (v := 4) Γ d_M_takeOver_44 (by decide) rfl ?_
        refine X_iload_n Γ d_M_takeOver_45 rfl 1 rfl rfl ?_
        refine X_imul Γ d_M_takeOver_46 rfl ?_
        refine X_iload_n Γ d_M_takeOver_47 rfl 2 rfl rfl ?_
        refine X_iadd Γ d_M_takeOver_48 rfl ?_
        refine X_iconst (v := (-1)) Γ d_M_takeOver_49 (by decide) rfl ?_
        refine X_iast (kx := ((4 * x1) + v2_19).toNatClampNeg) Γ d_M_takeOver_50 (by decide) rfl 0 rfl (at16 hb (lc_in (by decide) (by decide) hI19.2.1 hI19.2.2.1 h21)) (fun _ => rfl) rfl rfl ?_
        refine X_aload_n Γ d_M_takeOver_51 rfl 0 rfl rfl ?_
        refine X_get Γ d_M_takeOver_52 (by decide) rfl rfl in_M 22 (by decide) w502 rfl rfl rfl ?_
        refine X_iconst (v := 4) Γ d_M_takeOver_55 (by decide) rfl ?_
        refine X_iload_n Γ d_M_takeOver_56 rfl 1 rfl rfl ?_
        refine X_imul Γ d_M_takeOver_57 rfl ?_
        refine X_iload_n Γ d_M_takeOver_58 rfl 2 rfl rfl ?_
        refine X_iadd Γ d_M_takeOver_59 rfl ?_
        refine X_aload_n Γ d_M_takeOver_60 rfl 0 rfl rfl ?_
        refine X_get (v := .int (Gv19 0 3)) Γ d_M_takeOver_61 (by decide) rfl rfl in_M 3 (by decide) w483 rfl rfl rfl ?_
        refine X_iast (kx := ((4 * x1) + v2_19).toNatClampNeg) Γ d_M_takeOver_64 (by decide) rfl 0 rfl (at16 hb (lc_in (by decide) (by decide) hI19.2.1 hI19.2.2.1 h21)) (fun _ => rfl) rfl rfl ?_
        refine X_iinc (v := (v2_19 + 1)) Γ d_M_takeOver_65 2 rfl rfl (by decide) rfl rfl ?_
        refine X_goto (pc' := 19) Γ d_M_takeOver_68 (by decide) ?_
        refine X_loc [1, 2, 0] rfl ?_
        exact ih19 (v2_19 + 1) (g2 (g2 (g2 Gv19 14 ((4 * x1) + v2_19).toNatClampNeg (Gv19 1 v2_19.toNatClampNeg)) 15 ((4 * x1) + v2_19).toNatClampNeg (-1)) 16 ((4 * x1) + v2_19).toNatClampNeg (Gv19 0 3)) (⟨(lc_step (by decide) (by decide) hI19.1 hI19.2.1 hI19.2.2.1 h21).1, (lc_step (by decide) (by decide) hI19.1 hI19.2.1 hI19.2.2.1 h21).2.1, (lc_step (by decide) (by decide) hI19.1 hI19.2.1 hI19.2.2.1 h21).2.2, fun j hj => by rw [g2_ne _ _ _ (by decide), g2_ne _ _ _ (by decide), g2_ne _ _ _ (by decide)]; exact hI19.2.2.2 j hj⟩) E
  refine X_loc [1, 2, 0] rfl ?_
  exact J19 5 0 (g2 G 17 x1.toNatClampNeg (G 3 (G 7 x1.toNatClampNeg).toNatClampNeg)) (⟨by decide, by decide, by decide, fun j hj => by rw [g2_ne _ _ _ (by decide)]; exact hZ j hj⟩) E
def f_M_syncSize_4 (x1 : Int32) (G : Nat → Nat → Int32) : Nat → Int32 → Int32 → Int32
  | 0, v2_4, v3_4 => 0
  | k4 + 1, v2_4, v3_4 => (if 4 ≤ v3_4 then v2_4 else (jn (fun (t0_28 : Int32) => (f_M_syncSize_4 x1 G k4 (v2_4 + t0_28) (v3_4 + 1))) (fun (j28 : Int32 → Int32) => (if (G 14 ((4 * x1) + v3_4).toNatClampNeg) = 0 then (j28 0) else (j28 1)))))
def f_M_syncSize (x1 : Int32) (G : Nat → Nat → Int32) : Int32 := (f_M_syncSize_4 x1 G 5 0 0)
theorem e_M_syncSize : y_M_syncSize.cls ≠ "java/lang/invoke/MethodHandle" ∧ y_M_syncSize.cls ≠ "java/lang/invoke/VarHandle" ∧ (parseMethodDescriptor y_M_syncSize.desc).map (fun d => d.parameters.length) = some 1 := by decide +kernel
set_option maxHeartbeats 4000000 in
set_option maxRecDepth 100000 in
theorem m_M_syncSize (l : Launch) (D : va_G) (cI cZ cB cM : ClassId) (a : Nat → Nat) (hJ : xJ 27 a) (G : Nat → Nat → Int32) (x1 : Int32) (hb : vp_in x1 4) : Met l y_M_syncSize (Cond.code y_M_syncSize prog_8_method_5_code 4 (Option.some FieldType.int) :: wsBig) { frames := 0, cells := 0, slots := 0, locals := 0 } (xP D xcl (xty cI cZ cB cM) 27 a (kg (kM cI cZ a) G) [.ref (a 0), .int x1]) (xQi D xcl 27 a (f_M_syncSize x1 G) (kg (kM cI cZ a) G)) 0 0 (xA 27 a) := by
  refine X_met (by decide) rfl (Nat.le_of_ble_eq_true rfl) hJ (fun Y s m args Γ => ?_)
  show X Y s m D xcl 27 a 4 (kg (kM cI cZ a) G) 0 [(0, .ref (a 0)), (1, .int x1)] []
  have E := f_M_syncSize.eq_1 x1 G
  refine X_iconst (v := 0) Γ d_M_syncSize_0 (by decide) rfl ?_
  refine X_istore_n Γ d_M_syncSize_1 rfl (by decide) rfl rfl ?_
  refine X_iconst (v := 0) Γ d_M_syncSize_2 (by decide) rfl ?_
  refine X_istore_n Γ d_M_syncSize_3 rfl (by decide) rfl rfl ?_
  have J4 : ∀ (k4 : Nat) (v2_4 : Int32) (v3_4 : Int32), (0 < k4 ∧ k4 ≤ 5 ∧ v3_4 = nI (5 - k4)) → f_M_syncSize x1 G = f_M_syncSize_4 x1 G k4 v2_4 v3_4 → X Y s m D xcl 27 a 4 (kg (kM cI cZ a) G) 4 [(0, .ref (a 0)), (1, .int x1), (2, .int v2_4), (3, .int v3_4)] [] := by
    intro k4
    induction k4 with
    | zero => exact fun v2_4 v3_4 hI4 _ => absurd hI4 (fun h => Nat.lt_irrefl 0 h.1)
    | succ k4 ih4 =>
      intro v2_4 v3_4 hI4 E
      rw [f_M_syncSize_4] at E
      refine X_iload_n Γ d_M_syncSize_4 rfl 3 rfl rfl ?_
      refine X_iconst (v := 4) Γ d_M_syncSize_5 (by decide) rfl ?_
      refine X_icmp_ge (tgt := 36) Γ d_M_syncSize_6 (by decide) rfl (fun h6 => ?_) (fun h6 => ?_)
      · replace E := E.trans (if_pos h6)
        refine X_iload_n Γ d_M_syncSize_36 rfl 2 rfl rfl ?_
        exact X_ireti Γ d_M_syncSize_37 E.symm rfl
      · replace E := E.trans (if_neg h6)
        refine X_iload_n Γ d_M_syncSize_9 rfl 2 rfl rfl ?_
        refine X_aload_n Γ d_M_syncSize_10 rfl 0 rfl rfl ?_
        refine X_get Γ d_M_syncSize_11 (by decide) rfl rfl in_M 20 (by decide) w500 rfl rfl rfl ?_
        refine X_iconst (v := 4) Γ d_M_syncSize_14 (by decide) rfl ?_
        refine X_iload_n Γ d_M_syncSize_15 rfl 1 rfl rfl ?_
        refine X_imul Γ d_M_syncSize_16 rfl ?_
        refine X_iload_n Γ d_M_syncSize_17 rfl 3 rfl rfl ?_
        refine X_iadd Γ d_M_syncSize_18 rfl ?_
        refine X_zald (v := (G 14 ((4 * x1) + v3_4).toNatClampNeg)) Γ d_M_syncSize_19 (by decide) rfl 1 rfl (at16 hb (lc_in (by decide) (by decide) hI4.2.1 hI4.2.2 h6)) rfl rfl ?_
        refine jn_open E (fun j28 ej28 E => ?_)
        have J28 : ∀ (t0_28 : Int32), (True) → f_M_syncSize x1 G = j28 t0_28 → X Y s m D xcl 27 a 4 (kg (kM cI cZ a) G) 28 [(0, .ref (a 0)), (1, .int x1), (2, .int v2_4), (3, .int v3_4)] [.int t0_28, .int v2_4] := by
          intro t0_28 hI28 E
          rw [ej28] at E
          refine X_iadd Γ d_M_syncSize_28 rfl ?_
          refine X_istore_n Γ d_M_syncSize_29 rfl (by decide) rfl rfl ?_
          refine X_iinc (v := (v3_4 + 1)) Γ d_M_syncSize_30 3 rfl rfl (by decide) rfl rfl ?_
          refine X_goto (pc' := 4) Γ d_M_syncSize_33 (by decide) ?_
          refine X_loc [2, 3, 1, 0] rfl ?_
          exact ih4 (v2_4 + t0_28) (v3_4 + 1) (lc_step (by decide) (by decide) hI4.1 hI4.2.1 hI4.2.2 h6) E
        refine X_if_eq (tgt := 27) Γ d_M_syncSize_20 (by decide) rfl (fun h20 => ?_) (fun h20 => ?_)
        · replace E := E.trans (if_pos h20)
          refine X_iconst (v := 0) Γ d_M_syncSize_27 (by decide) rfl ?_
          refine X_loc [0, 1, 2, 3] rfl ?_
          exact J28 0 trivial E
        · replace E := E.trans (if_neg h20)
          refine X_iconst (v := 1) Γ d_M_syncSize_23 (by decide) rfl ?_
          refine X_goto (pc' := 28) Γ d_M_syncSize_24 (by decide) ?_
          refine X_loc [0, 1, 2, 3] rfl ?_
          exact J28 1 trivial E
  refine X_loc [2, 3, 1, 0] rfl ?_
  exact J4 5 0 0 (⟨by decide, by decide, by decide⟩) E
def f_M_rise_14 (x1 : Int32) (G : Nat → Nat → Int32) : Nat → Int32 → Int32 → (Nat → Nat → Int32)
  | 0, v2_14, v3_14 => G
  | k14 + 1, v2_14, v3_14 => (if 4 ≤ v3_14 then (if v2_14 ≤ (G 8 x1.toNatClampNeg) then (g2 G 8 x1.toNatClampNeg (G 8 x1.toNatClampNeg)) else (g2 G 8 x1.toNatClampNeg v2_14)) else (jn (fun (t0_56 : Int32) => (jn (fun (t0_77 : Int32) => (f_M_rise_14 x1 G k14 t0_77 (v3_14 + 1))) (fun (j77 : Int32 → (Nat → Nat → Int32)) => (if t0_56 = 0 then (j77 v2_14) else (j77 (G 15 ((4 * x1) + v3_14).toNatClampNeg)))))) (fun (j56 : Int32 → (Nat → Nat → Int32)) => (if v3_14 = x1 then (j56 0) else (if (G 14 ((4 * x1) + v3_14).toNatClampNeg) = 0 then (j56 0) else (if v2_14 ≤ (G 15 ((4 * x1) + v3_14).toNatClampNeg) then (j56 0) else (j56 1)))))))
def f_M_rise (x1 : Int32) (G : Nat → Nat → Int32) : (Nat → Nat → Int32) := (f_M_rise_14 x1 G 5 (G 3 (G 7 x1.toNatClampNeg).toNatClampNeg) 0)
theorem e_M_rise : y_M_rise.cls ≠ "java/lang/invoke/MethodHandle" ∧ y_M_rise.cls ≠ "java/lang/invoke/VarHandle" ∧ (parseMethodDescriptor y_M_rise.desc).map (fun d => d.parameters.length) = some 1 := by decide +kernel
set_option maxHeartbeats 4000000 in
set_option maxRecDepth 100000 in
theorem m_M_rise (l : Launch) (D : va_G) (cI cZ cB cM : ClassId) (a : Nat → Nat) (hJ : xJ 27 a) (G : Nat → Nat → Int32) (x1 : Int32) (hb : vp_in x1 4) (hT : okT G) : Met l y_M_rise (Cond.code y_M_rise prog_8_method_6_code 5 (Option.none : Option FieldType) :: wsBig) { frames := 0, cells := 0, slots := 0, locals := 0 } (xP D xcl (xty cI cZ cB cM) 27 a (kg (kM cI cZ a) G) [.ref (a 0), .int x1]) (xQv D xcl 27 a (kg (kM cI cZ a) (f_M_rise x1 G))) 0 0 (xA 27 a) := by
  refine X_met (by decide) rfl (Nat.le_of_ble_eq_true rfl) hJ (fun Y s m args Γ => ?_)
  show X Y s m D xcl 27 a 5 (kg (kM cI cZ a) G) 0 [(0, .ref (a 0)), (1, .int x1)] []
  have E := f_M_rise.eq_1 x1 G
  refine X_aload_n Γ d_M_rise_0 rfl 0 rfl rfl ?_
  refine X_get Γ d_M_rise_1 (by decide) rfl rfl in_M 9 (by decide) w489 rfl rfl rfl ?_
  refine X_aload_n Γ d_M_rise_4 rfl 0 rfl rfl ?_
  refine X_get Γ d_M_rise_5 (by decide) rfl rfl in_M 13 (by decide) w493 rfl rfl rfl ?_
  refine X_iload_n Γ d_M_rise_8 rfl 1 rfl rfl ?_
  refine X_iald (v := (G 7 x1.toNatClampNeg)) Γ d_M_rise_9 (by decide) rfl 0 rfl hb rfl rfl ?_
  refine X_iald (v := (G 3 (G 7 x1.toNatClampNeg).toNatClampNeg)) Γ d_M_rise_10 (by decide) rfl 0 rfl (hT.1 _ (vp_lt hb)) rfl rfl ?_
  refine X_istore_n Γ d_M_rise_11 rfl (by decide) rfl rfl ?_
  refine X_iconst (v := 0) Γ d_M_rise_12 (by decide) rfl ?_
  refine X_istore_n Γ d_M_rise_13 rfl (by decide) rfl rfl ?_
  have J14 : ∀ (k14 : Nat) (v2_14 : Int32) (v3_14 : Int32), (0 < k14 ∧ k14 ≤ 5 ∧ v3_14 = nI (5 - k14)) → f_M_rise x1 G = f_M_rise_14 x1 G k14 v2_14 v3_14 → X Y s m D xcl 27 a 5 (kg (kM cI cZ a) G) 14 [(0, .ref (a 0)), (1, .int x1), (2, .int v2_14), (3, .int v3_14)] [] := by
    intro k14
    induction k14 with
    | zero => exact fun v2_14 v3_14 hI14 _ => absurd hI14 (fun h => Nat.lt_irrefl 0 h.1)
    | succ k14 ih14 =>
      intro v2_14 v3_14 hI14 E
      rw [f_M_rise_14] at E
      refine X_iload_n Γ d_M_rise_14 rfl 3 rfl rfl ?_
      refine X_iconst (v := 4) Γ d_M_rise_15 (by decide) rfl ?_
      refine X_icmp_ge (tgt := 84) Γ d_M_rise_16 (by decide) rfl (fun h16 => ?_) (fun h16 => ?_)
      · replace E := E.trans (if_pos h16)
        refine X_aload_n Γ d_M_rise_84 rfl 0 rfl rfl ?_
        refine X_get Γ d_M_rise_85 (by decide) rfl rfl in_M 14 (by decide) w494 rfl rfl rfl ?_
        refine X_iload_n Γ d_M_rise_88 rfl 1 rfl rfl ?_
        refine X_iload_n Γ d_M_rise_89 rfl 2 rfl rfl ?_
        refine X_aload_n Γ d_M_rise_90 rfl 0 rfl rfl ?_
        refine X_get Γ d_M_rise_91 (by decide) rfl rfl in_M 14 (by decide) w494 rfl rfl rfl ?_
        refine X_iload_n Γ d_M_rise_94 rfl 1 rfl rfl ?_
        refine X_iald (v := (G 8 x1.toNatClampNeg)) Γ d_M_rise_95 (by decide) rfl 0 rfl hb rfl rfl ?_
        refine X_icmp_le (tgt := 103) Γ d_M_rise_96 (by decide) rfl (fun h96 => ?_) (fun h96 => ?_)
        · replace E := E.trans (if_pos h96)
          refine X_aload_n Γ d_M_rise_103 rfl 0 rfl rfl ?_
          refine X_get Γ d_M_rise_104 (by decide) rfl rfl in_M 14 (by decide) w494 rfl rfl rfl ?_
          refine X_iload_n Γ d_M_rise_107 rfl 1 rfl rfl ?_
          refine X_iald (v := (G 8 x1.toNatClampNeg)) Γ d_M_rise_108 (by decide) rfl 0 rfl hb rfl rfl ?_
          refine X_iast (kx := x1.toNatClampNeg) Γ d_M_rise_109 (by decide) rfl 0 rfl hb (fun _ => rfl) rfl rfl ?_
          exact X_vret Γ d_M_rise_110 (gv_eq E)
        · replace E := E.trans (if_neg h96)
          refine X_iload_n Γ d_M_rise_99 rfl 2 rfl rfl ?_
          refine X_goto (pc' := 109) Γ d_M_rise_100 (by decide) ?_
          refine X_iast (kx := x1.toNatClampNeg) Γ d_M_rise_109 (by decide) rfl 0 rfl hb (fun _ => rfl) rfl rfl ?_
          exact X_vret Γ d_M_rise_110 (gv_eq E)
      · replace E := E.trans (if_neg h16)
        refine X_iload_n Γ d_M_rise_19 rfl 3 rfl rfl ?_
        refine X_iload_n Γ d_M_rise_20 rfl 1 rfl rfl ?_
        refine jn_open E (fun j56 ej56 E => ?_)
        have J56 : ∀ (t0_56 : Int32), (True) → f_M_rise x1 G = j56 t0_56 → X Y s m D xcl 27 a 5 (kg (kM cI cZ a) G) 56 [(0, .ref (a 0)), (1, .int x1), (2, .int v2_14), (3, .int v3_14)] [.int t0_56] := by
          intro t0_56 hI56 E
          rw [ej56] at E
          refine X_istore Γ d_M_rise_56 (by decide) rfl rfl ?_
          refine X_iload Γ d_M_rise_58 0 rfl rfl ?_
          refine jn_open E (fun j77 ej77 E => ?_)
          have J77 : ∀ (t0_77 : Int32), (True) → f_M_rise x1 G = j77 t0_77 → X Y s m D xcl 27 a 5 (kg (kM cI cZ a) G) 77 [(0, .ref (a 0)), (1, .int x1), (2, .int v2_14), (3, .int v3_14), (4, .int t0_56)] [.int t0_77] := by
            intro t0_77 hI77 E
            rw [ej77] at E
            refine X_istore_n Γ d_M_rise_77 rfl (by decide) rfl rfl ?_
            refine X_iinc (v := (v3_14 + 1)) Γ d_M_rise_78 3 rfl rfl (by decide) rfl rfl ?_
            refine X_goto (pc' := 14) Γ d_M_rise_81 (by decide) ?_
            refine X_loc [2, 3, 1, 0] rfl ?_
            exact ih14 t0_77 (v3_14 + 1) (lc_step (by decide) (by decide) hI14.1 hI14.2.1 hI14.2.2 h16) E
          refine X_if_eq (tgt := 76) Γ d_M_rise_60 (by decide) rfl (fun h60 => ?_) (fun h60 => ?_)
          · replace E := E.trans (if_pos h60)
            refine X_iload_n Γ d_M_rise_76 rfl 3 rfl rfl ?_
            refine X_loc [1, 2, 3, 4, 0] rfl ?_
            exact J77 v2_14 trivial E
          · replace E := E.trans (if_neg h60)
            refine X_aload_n Γ d_M_rise_63 rfl 1 rfl rfl ?_
            refine X_get Γ d_M_rise_64 (by decide) rfl rfl in_M 21 (by decide) w501 rfl rfl rfl ?_
            refine X_iconst (v := 4) Γ d_M_rise_67 (by decide) rfl ?_
            refine X_iload_n Γ d_M_rise_68 rfl 2 rfl rfl ?_
            refine X_imul Γ d_M_rise_69 rfl ?_
            refine X_iload_n Γ d_M_rise_70 rfl 4 rfl rfl ?_
            refine X_iadd Γ d_M_rise_71 rfl ?_
            refine X_iald (v := (G 15 ((4 * x1) + v3_14).toNatClampNeg)) Γ d_M_rise_72 (by decide) rfl 0 rfl (at16 hb (lc_in (by decide) (by decide) hI14.2.1 hI14.2.2 h16)) rfl rfl ?_
            refine X_goto (pc' := 77) Γ d_M_rise_73 (by decide) ?_
            refine X_loc [1, 2, 3, 4, 0] rfl ?_
            exact J77 (G 15 ((4 * x1) + v3_14).toNatClampNeg) trivial E
        refine X_icmp_eq (tgt := 55) Γ d_M_rise_21 (by decide) rfl (fun h21 => ?_) (fun h21 => ?_)
        · replace E := E.trans (if_pos h21)
          refine X_iconst (v := 0) Γ d_M_rise_55 (by decide) rfl ?_
          refine X_loc [0, 1, 2, 3] rfl ?_
          exact J56 0 trivial E
        · replace E := E.trans (if_neg h21)
          refine X_aload_n Γ d_M_rise_24 rfl 0 rfl rfl ?_
          refine X_get Γ d_M_rise_25 (by decide) rfl rfl in_M 20 (by decide) w500 rfl rfl rfl ?_
          refine X_iconst (v := 4) Γ d_M_rise_28 (by decide) rfl ?_
          refine X_iload_n Γ d_M_rise_29 rfl 1 rfl rfl ?_
          refine X_imul Γ d_M_rise_30 rfl ?_
          refine X_iload_n Γ d_M_rise_31 rfl 3 rfl rfl ?_
          refine X_iadd Γ d_M_rise_32 rfl ?_
          refine X_zald (v := (G 14 ((4 * x1) + v3_14).toNatClampNeg)) Γ d_M_rise_33 (by decide) rfl 1 rfl (at16 hb (lc_in (by decide) (by decide) hI14.2.1 hI14.2.2 h16)) rfl rfl ?_
          refine X_if_eq (tgt := 55) Γ d_M_rise_34 (by decide) rfl (fun h34 => ?_) (fun h34 => ?_)
          · replace E := E.trans (if_pos h34)
            refine X_iconst (v := 0) Γ d_M_rise_55 (by decide) rfl ?_
            refine X_loc [0, 1, 2, 3] rfl ?_
            exact J56 0 trivial E
          · replace E := E.trans (if_neg h34)
            refine X_aload_n Γ d_M_rise_37 rfl 0 rfl rfl ?_
            refine X_get Γ d_M_rise_38 (by decide) rfl rfl in_M 21 (by decide) w501 rfl rfl rfl ?_
            refine X_iconst (v := 4) Γ d_M_rise_41 (by decide) rfl ?_
            refine X_iload_n Γ d_M_rise_42 rfl 1 rfl rfl ?_
            refine X_imul Γ d_M_rise_43 rfl ?_
            refine X_iload_n Γ d_M_rise_44 rfl 3 rfl rfl ?_
            refine X_iadd Γ d_M_rise_45 rfl ?_
            refine X_iald (v := (G 15 ((4 * x1) + v3_14).toNatClampNeg)) Γ d_M_rise_46 (by decide) rfl 0 rfl (at16 hb (lc_in (by decide) (by decide) hI14.2.1 hI14.2.2 h16)) rfl rfl ?_
            refine X_iload_n Γ d_M_rise_47 rfl 2 rfl rfl ?_
            refine X_icmp_ge (tgt := 55) Γ d_M_rise_48 (by decide) rfl (fun h48 => ?_) (fun h48 => ?_)
            · replace E := E.trans (if_pos h48)
              refine X_iconst (v := 0) Γ d_M_rise_55 (by decide) rfl ?_
              refine X_loc [0, 1, 2, 3] rfl ?_
              exact J56 0 trivial E
            · replace E := E.trans (if_neg h48)
              refine X_iconst (v := 1) Γ d_M_rise_51 (by decide) rfl ?_
              refine X_goto (pc' := 56) Γ d_M_rise_52 (by decide) ?_
              refine X_loc [0, 1, 2, 3] rfl ?_
              exact J56 1 trivial E
  refine X_loc [2, 3, 1, 0] rfl ?_
  exact J14 5 (G 3 (G 7 x1.toNatClampNeg).toNatClampNeg) 0 (⟨by decide, by decide, by decide⟩) E
def f_M_upTo_7 (x1 : Int32) (x2 : Int32) (G : Nat → Nat → Int32) : Nat → Int32 → Int32
  | 0, v3_7 => 0
  | k7 + 1, v3_7 => (if (G 3 v3_7.toNatClampNeg) ≤ x2 then v3_7 else (f_M_upTo_7 x1 x2 G k7 (G 2 v3_7.toNatClampNeg)))
def f_M_upTo (x1 : Int32) (x2 : Int32) (G : Nat → Nat → Int32) : Int32 := (f_M_upTo_7 x1 x2 G 521 (G 7 x1.toNatClampNeg))
theorem e_M_upTo : y_M_upTo.cls ≠ "java/lang/invoke/MethodHandle" ∧ y_M_upTo.cls ≠ "java/lang/invoke/VarHandle" ∧ (parseMethodDescriptor y_M_upTo.desc).map (fun d => d.parameters.length) = some 2 := by decide +kernel
set_option maxHeartbeats 4000000 in
set_option maxRecDepth 100000 in
theorem m_M_upTo (l : Launch) (D : va_G) (cI cZ cB cM : ClassId) (a : Nat → Nat) (hJ : xJ 27 a) (G : Nat → Nat → Int32) (x1 : Int32) (x2 : Int32) (hb : vp_in x1 4) (hT : okT G) (hn : 0 ≤ x2.toInt) : Met l y_M_upTo (Cond.code y_M_upTo prog_8_method_7_code 4 (Option.some FieldType.int) :: wsBig) { frames := 0, cells := 0, slots := 0, locals := 0 } (xP D xcl (xty cI cZ cB cM) 27 a (kg (kM cI cZ a) G) [.ref (a 0), .int x1, .int x2]) (xQi D xcl 27 a (f_M_upTo x1 x2 G) (kg (kM cI cZ a) G)) 0 0 (xA 27 a) := by
  refine X_met (by decide) rfl (Nat.le_of_ble_eq_true rfl) hJ (fun Y s m args Γ => ?_)
  show X Y s m D xcl 27 a 4 (kg (kM cI cZ a) G) 0 [(0, .ref (a 0)), (1, .int x1), (2, .int x2)] []
  have E := f_M_upTo.eq_1 x1 x2 G
  refine X_aload_n Γ d_M_upTo_0 rfl 0 rfl rfl ?_
  refine X_get Γ d_M_upTo_1 (by decide) rfl rfl in_M 13 (by decide) w493 rfl rfl rfl ?_
  refine X_iload_n Γ d_M_upTo_4 rfl 1 rfl rfl ?_
  refine X_iald (v := (G 7 x1.toNatClampNeg)) Γ d_M_upTo_5 (by decide) rfl 0 rfl hb rfl rfl ?_
  refine X_istore_n Γ d_M_upTo_6 rfl (by decide) rfl rfl ?_
  have J7 : ∀ (k7 : Nat) (v3_7 : Int32), (vp_in v3_7 520 ∧ v3_7.toInt < k7) → f_M_upTo x1 x2 G = f_M_upTo_7 x1 x2 G k7 v3_7 → X Y s m D xcl 27 a 4 (kg (kM cI cZ a) G) 7 [(0, .ref (a 0)), (1, .int x1), (2, .int x2), (3, .int v3_7)] [] := by
    intro k7
    induction k7 with
    | zero => exact fun v3_7 hI7 _ => absurd hI7 (fun h => by have := vp_in_iff.mp h.1; omega)
    | succ k7 ih7 =>
      intro v3_7 hI7 E
      rw [f_M_upTo_7] at E
      refine X_aload_n Γ d_M_upTo_7 rfl 0 rfl rfl ?_
      refine X_get Γ d_M_upTo_8 (by decide) rfl rfl in_M 9 (by decide) w489 rfl rfl rfl ?_
      refine X_iload_n Γ d_M_upTo_11 rfl 3 rfl rfl ?_
      refine X_iald (v := (G 3 v3_7.toNatClampNeg)) Γ d_M_upTo_12 (by decide) rfl 0 rfl hI7.1 rfl rfl ?_
      refine X_iload_n Γ d_M_upTo_13 rfl 2 rfl rfl ?_
      refine X_icmp_le (tgt := 27) Γ d_M_upTo_14 (by decide) rfl (fun h14 => ?_) (fun h14 => ?_)
      · replace E := E.trans (if_pos h14)
        refine X_iload_n Γ d_M_upTo_27 rfl 3 rfl rfl ?_
        exact X_ireti Γ d_M_upTo_28 E.symm rfl
      · replace E := E.trans (if_neg h14)
        refine X_aload_n Γ d_M_upTo_17 rfl 0 rfl rfl ?_
        refine X_get Γ d_M_upTo_18 (by decide) rfl rfl in_M 8 (by decide) w488 rfl rfl rfl ?_
        refine X_iload_n Γ d_M_upTo_21 rfl 3 rfl rfl ?_
        refine X_iald (v := (G 2 v3_7.toNatClampNeg)) Γ d_M_upTo_22 (by decide) rfl 0 rfl hI7.1 rfl rfl ?_
        refine X_istore_n Γ d_M_upTo_23 rfl (by decide) rfl rfl ?_
        refine X_goto (pc' := 7) Γ d_M_upTo_24 (by decide) ?_
        refine X_loc [1, 2, 3, 0] rfl ?_
        exact ih7 (G 2 v3_7.toNatClampNeg) (ut_step hT hn hI7 h14) E
  refine X_loc [1, 2, 3, 0] rfl ?_
  exact J7 521 (G 7 x1.toNatClampNeg) (in521 (hT.1 _ (vp_lt hb))) E
def f_M_underEpoch_7 (x1 : Int32) (x2 : Int32) (G : Nat → Nat → Int32) : Nat → Int32 → Int32
  | 0, v3_7 => 0
  | k7 + 1, v3_7 => (if v3_7 ≤ 0 then v3_7 else (if (G 4 v3_7.toNatClampNeg) ≤ x2 then v3_7 else (f_M_underEpoch_7 x1 x2 G k7 (G 2 v3_7.toNatClampNeg))))
def f_M_underEpoch (x1 : Int32) (x2 : Int32) (G : Nat → Nat → Int32) : Int32 := (f_M_underEpoch_7 x1 x2 G 521 (G 7 x1.toNatClampNeg))
theorem e_M_underEpoch : y_M_underEpoch.cls ≠ "java/lang/invoke/MethodHandle" ∧ y_M_underEpoch.cls ≠ "java/lang/invoke/VarHandle" ∧ (parseMethodDescriptor y_M_underEpoch.desc).map (fun d => d.parameters.length) = some 2 := by decide +kernel
set_option maxHeartbeats 4000000 in
set_option maxRecDepth 100000 in
theorem m_M_underEpoch (l : Launch) (D : va_G) (cI cZ cB cM : ClassId) (a : Nat → Nat) (hJ : xJ 27 a) (G : Nat → Nat → Int32) (x1 : Int32) (x2 : Int32) (hb : vp_in x1 4) (hT : okT G) : Met l y_M_underEpoch (Cond.code y_M_underEpoch prog_8_method_8_code 4 (Option.some FieldType.int) :: wsBig) { frames := 0, cells := 0, slots := 0, locals := 0 } (xP D xcl (xty cI cZ cB cM) 27 a (kg (kM cI cZ a) G) [.ref (a 0), .int x1, .int x2]) (xQi D xcl 27 a (f_M_underEpoch x1 x2 G) (kg (kM cI cZ a) G)) 0 0 (xA 27 a) := by
  refine X_met (by decide) rfl (Nat.le_of_ble_eq_true rfl) hJ (fun Y s m args Γ => ?_)
  show X Y s m D xcl 27 a 4 (kg (kM cI cZ a) G) 0 [(0, .ref (a 0)), (1, .int x1), (2, .int x2)] []
  have E := f_M_underEpoch.eq_1 x1 x2 G
  refine X_aload_n Γ d_M_underEpoch_0 rfl 0 rfl rfl ?_
  refine X_get Γ d_M_underEpoch_1 (by decide) rfl rfl in_M 13 (by decide) w493 rfl rfl rfl ?_
  refine X_iload_n Γ d_M_underEpoch_4 rfl 1 rfl rfl ?_
  refine X_iald (v := (G 7 x1.toNatClampNeg)) Γ d_M_underEpoch_5 (by decide) rfl 0 rfl hb rfl rfl ?_
  refine X_istore_n Γ d_M_underEpoch_6 rfl (by decide) rfl rfl ?_
  have J7 : ∀ (k7 : Nat) (v3_7 : Int32), (vp_in v3_7 520 ∧ v3_7.toInt < k7) → f_M_underEpoch x1 x2 G = f_M_underEpoch_7 x1 x2 G k7 v3_7 → X Y s m D xcl 27 a 4 (kg (kM cI cZ a) G) 7 [(0, .ref (a 0)), (1, .int x1), (2, .int x2), (3, .int v3_7)] [] := by
    intro k7
    induction k7 with
    | zero => exact fun v3_7 hI7 _ => absurd hI7 (fun h => by have := vp_in_iff.mp h.1; omega)
    | succ k7 ih7 =>
      intro v3_7 hI7 E
      rw [f_M_underEpoch_7] at E
      refine X_iload_n Γ d_M_underEpoch_7 rfl 3 rfl rfl ?_
      refine X_if_le (tgt := 31) Γ d_M_underEpoch_8 (by decide) rfl (fun h8 => ?_) (fun h8 => ?_)
      · replace E := E.trans (if_pos h8)
        refine X_iload_n Γ d_M_underEpoch_31 rfl 3 rfl rfl ?_
        exact X_ireti Γ d_M_underEpoch_32 E.symm rfl
      · replace E := E.trans (if_neg h8)
        refine X_aload_n Γ d_M_underEpoch_11 rfl 0 rfl rfl ?_
        refine X_get Γ d_M_underEpoch_12 (by decide) rfl rfl in_M 10 (by decide) w490 rfl rfl rfl ?_
        refine X_iload_n Γ d_M_underEpoch_15 rfl 3 rfl rfl ?_
        refine X_iald (v := (G 4 v3_7.toNatClampNeg)) Γ d_M_underEpoch_16 (by decide) rfl 0 rfl hI7.1 rfl rfl ?_
        refine X_iload_n Γ d_M_underEpoch_17 rfl 2 rfl rfl ?_
        refine X_icmp_le (tgt := 31) Γ d_M_underEpoch_18 (by decide) rfl (fun h18 => ?_) (fun h18 => ?_)
        · replace E := E.trans (if_pos h18)
          refine X_iload_n Γ d_M_underEpoch_31 rfl 3 rfl rfl ?_
          exact X_ireti Γ d_M_underEpoch_32 E.symm rfl
        · replace E := E.trans (if_neg h18)
          refine X_aload_n Γ d_M_underEpoch_21 rfl 0 rfl rfl ?_
          refine X_get Γ d_M_underEpoch_22 (by decide) rfl rfl in_M 8 (by decide) w488 rfl rfl rfl ?_
          refine X_iload_n Γ d_M_underEpoch_25 rfl 3 rfl rfl ?_
          refine X_iald (v := (G 2 v3_7.toNatClampNeg)) Γ d_M_underEpoch_26 (by decide) rfl 0 rfl hI7.1 rfl rfl ?_
          refine X_istore_n Γ d_M_underEpoch_27 rfl (by decide) rfl rfl ?_
          refine X_goto (pc' := 7) Γ d_M_underEpoch_28 (by decide) ?_
          refine X_loc [1, 2, 3, 0] rfl ?_
          exact ih7 (G 2 v3_7.toNatClampNeg) (ue_step hT hI7 h8) E
  refine X_loc [1, 2, 3, 0] rfl ?_
  exact J7 521 (G 7 x1.toNatClampNeg) (in521 (hT.1 _ (vp_lt hb))) E
