theorem ut_7 {x1 x2 : Int32} {G : Nat → Nat → Int32} (hT : okT G) (hn : 0 ≤ x2.toInt) : ∀ (k : Nat) (v : Int32), (vp_in v 520 ∧ v.toInt < (k : Int)) → vp_in (f_M_upTo_7 x1 x2 G k v) 520 := by
  intro k
  induction k with
  | zero => intro v h; exact absurd h (fun h => by have := vp_in_iff.mp h.1; omega)
  | succ k ih =>
    intro v hI
    rw [f_M_upTo_7]
    by_cases h : G 3 v.toNatClampNeg ≤ x2
    · rw [if_pos h]; exact hI.1
    · rw [if_neg h]; exact ih _ (ut_step hT hn hI h)
theorem ut_in {x1 x2 : Int32} {G : Nat → Nat → Int32} (hb : vp_in x1 4) (hT : okT G) (hn : 0 ≤ x2.toInt) : vp_in (f_M_upTo x1 x2 G) 520 := by
  unfold f_M_upTo
  exact ut_7 hT hn 521 _ (in521 (hT.1 _ (vp_lt hb)))
theorem ue_7 {x1 x2 : Int32} {G : Nat → Nat → Int32} (hT : okT G) : ∀ (k : Nat) (v : Int32), (vp_in v 520 ∧ v.toInt < (k : Int)) → vp_in (f_M_underEpoch_7 x1 x2 G k v) 520 := by
  intro k
  induction k with
  | zero => intro v h; exact absurd h (fun h => by have := vp_in_iff.mp h.1; omega)
  | succ k ih =>
    intro v hI
    rw [f_M_underEpoch_7]
    by_cases h : v ≤ 0
    · rw [if_pos h]; exact hI.1
    · rw [if_neg h]
      by_cases h2 : G 4 v.toNatClampNeg ≤ x2
      · rw [if_pos h2]; exact hI.1
      · rw [if_neg h2]; exact ih _ (ue_step hT hI h)
theorem ue_in {x1 x2 : Int32} {G : Nat → Nat → Int32} (hb : vp_in x1 4) (hT : okT G) : vp_in (f_M_underEpoch x1 x2 G) 520 := by
  unfold f_M_underEpoch
  exact ue_7 hT 521 _ (in521 (hT.1 _ (vp_lt hb)))
def f_M_isMessage (x1 : Int32) (G : Nat → Nat → Int32) : Int32 := (if x1 < 0 then 0 else (if (G 0 24) ≤ x1 then 0 else 1))
theorem e_M_isMessage : y_M_isMessage.cls ≠ "java/lang/invoke/MethodHandle" ∧ y_M_isMessage.cls ≠ "java/lang/invoke/VarHandle" ∧ (parseMethodDescriptor y_M_isMessage.desc).map (fun d => d.parameters.length) = some 1 := by decide +kernel
set_option maxHeartbeats 4000000 in
set_option maxRecDepth 100000 in
theorem m_M_isMessage (l : Launch) (D : va_G) (cI cZ cB cM : ClassId) (a : Nat → Nat) (hJ : xJ 27 a) (G : Nat → Nat → Int32) (x1 : Int32) : Met l y_M_isMessage (Cond.code y_M_isMessage prog_8_method_17_code 2 (Option.some FieldType.boolean) :: wsBig) { frames := 0, cells := 0, slots := 0, locals := 0 } (xP D xcl (xty cI cZ cB cM) 27 a (kg (kM cI cZ a) G) [.ref (a 0), .int x1]) (xQi D xcl 27 a (f_M_isMessage x1 G) (kg (kM cI cZ a) G)) 0 0 (xA 27 a) := by
  refine X_met (by decide) rfl (Nat.le_of_ble_eq_true rfl) hJ (fun Y s m args Γ => ?_)
  show X Y s m D xcl 27 a 2 (kg (kM cI cZ a) G) 0 [(0, .ref (a 0)), (1, .int x1)] []
  have E := f_M_isMessage.eq_1 x1 G
  refine X_iload_n Γ d_M_isMessage_0 rfl 1 rfl rfl ?_
  refine X_if_lt (tgt := 16) Γ d_M_isMessage_1 (by decide) rfl (fun h1 => ?_) (fun h1 => ?_)
  · replace E := E.trans (if_pos h1)
    refine X_iconst (v := 0) Γ d_M_isMessage_16 (by decide) rfl ?_
    exact X_iretz Γ d_M_isMessage_17 rfl E.symm rfl
  · replace E := E.trans (if_neg h1)
    refine X_iload_n Γ d_M_isMessage_4 rfl 1 rfl rfl ?_
    refine X_aload_n Γ d_M_isMessage_5 rfl 0 rfl rfl ?_
    refine X_get Γ d_M_isMessage_6 (by decide) rfl rfl in_M 24 (by decide) w504 rfl rfl rfl ?_
    refine X_icmp_ge (tgt := 16) Γ d_M_isMessage_9 (by decide) rfl (fun h9 => ?_) (fun h9 => ?_)
    · replace E := E.trans (if_pos h9)
      refine X_iconst (v := 0) Γ d_M_isMessage_16 (by decide) rfl ?_
      exact X_iretz Γ d_M_isMessage_17 rfl E.symm rfl
    · replace E := E.trans (if_neg h9)
      refine X_iconst (v := 1) Γ d_M_isMessage_12 (by decide) rfl ?_
      refine X_goto (pc' := 17) Γ d_M_isMessage_13 (by decide) ?_
      exact X_iretz Γ d_M_isMessage_17 rfl E.symm rfl
theorem ra_pos {x d : Int32} (h : 0 ≤ x) (h2 : ¬ d ≤ x) : 0 ≤ (x + 1).toInt := by
  rw [i_le, i0] at h
  rw [i_le] at h2
  have := Int32.toInt_lt d
  rw [i_add (by rw [i1]; omega) (by rw [i1]; omega), i1]
  omega
def okK (G : Nat → Nat → Int32) : Prop := 0 ≤ (G 0 24).toInt ∧ (G 0 24).toInt ≤ 8
theorem ck_in {G : Nat → Nat → Int32} (hc : okK G) (h : G 0 24 < 8) : vp_in (G 0 24) 8 := by
  rw [i_lt, i8] at h
  have := hc.1
  rw [vp_in_iff]
  omega
theorem ap_in {G : Nat → Nat → Int32} (hR : 0 ≤ (G 0 7).toInt ∧ (G 0 7).toInt < 519) : vp_in (G 0 7 + 1) 520 := by
  rw [vp_in_iff, i_add (by rw [i1]; omega) (by rw [i1]; omega), i1]
  omega
theorem ap_okT {G : Nat → Nat → Int32} {j : Nat} {e d y z w : Int32} (hT : okT G) (hR : 0 ≤ (G 0 7).toInt ∧ (G 0 7).toInt < 519) (hl : e.toInt ≤ (G 0 7).toInt) (he : vp_in e 520) : okT (g2 (g2 (g2 (g2 (g2 (g2 (g2 G 0 7 (G 0 7 + 1)) 2 (G 0 7 + 1).toNatClampNeg e) 3 (G 0 7 + 1).toNatClampNeg d) 4 (G 0 7 + 1).toNatClampNeg y) 5 (G 0 7 + 1).toNatClampNeg z) 6 (G 0 7 + 1).toNatClampNeg w) 7 j (G 0 7 + 1)) := by
  have h1 := ap_in hR
  have h2 := vp_in_iff.mp he
  have hr : (G 0 7 + 1).toInt = (G 0 7).toInt + 1 := by rw [i_add (by rw [i1]; omega) (by rw [i1]; omega), i1]
  have hk := cl_of (x := G 0 7 + 1) (by omega)
  refine ⟨fun i hi => ?_, fun x hx h0 => ?_, ?_⟩
  · show vp_in (va_up (G 7) j (G 0 7 + 1) i) 520
    unfold va_up
    split
    · exact h1
    · exact hT.1 i hi
  · show 0 ≤ (va_up (G 2) (G 0 7 + 1).toNatClampNeg e x).toInt ∧ (va_up (G 2) (G 0 7 + 1).toNatClampNeg e x).toInt < (x : Int)
    unfold va_up
    split
    · omega
    · exact hT.2.1 x hx h0
  · show va_up (G 3) (G 0 7 + 1).toNatClampNeg d 0 = 0
    unfold va_up
    rw [if_neg (by omega)]
    exact hT.2.2
theorem im_lt {x : Int32} {G : Nat → Nat → Int32} (h : ¬ f_M_isMessage x G = 0) : 0 ≤ x.toInt ∧ x.toInt < (G 0 24).toInt := by
  unfold f_M_isMessage at h
  by_cases h1 : x < 0
  · rw [if_pos h1] at h; exact absurd rfl h
  · rw [if_neg h1] at h
    by_cases h2 : G 0 24 ≤ x
    · rw [if_pos h2] at h; exact absurd rfl h
    · rw [i_lt, i0] at h1
      rw [i_le] at h2
      omega
theorem im_in {x : Int32} {G : Nat → Nat → Int32} (h : ¬ f_M_isMessage x G = 0) : 0 ≤ x.toInt ∧ x.toInt < (G 0 24).toInt := im_lt h
theorem im_in8 {x : Int32} {G : Nat → Nat → Int32} (hc : okK G) (h : ¬ f_M_isMessage x G = 0) : vp_in x 8 := by
  have h1 := im_lt h
  have h2 := hc.2
  rw [vp_in_iff]
  omega
theorem gv_in {t l : Int32} (hL : l.toInt < 4) (hI : t = 0 ∨ (t = 1 ∧ 0 ≤ l.toInt)) (h : ¬ t = 0) : vp_in l 4 := by
  rcases hI with q | q
  · exact absurd q h
  · rw [vp_in_iff]
    omega
theorem gv_nar {t : Int32} {p : Prop} (hI : t = 0 ∨ (t = 1 ∧ p)) : narrow .boolean (.int t) = .int t := by
  rcases hI with rfl | ⟨rfl, _⟩ <;> rfl
theorem an_u1 {n b : Int32} (hn : 0 ≤ n.toInt ∧ n.toInt ≤ 100) (hB : 1 ≤ b.toInt ∧ b.toInt ≤ 3) : 0 ≤ (n + b).toInt := by
  rw [i_add (by omega) (by omega)]
  omega
def f_M_recordAt (x1 : Int32) (x2 : Int32) (G : Nat → Nat → Int32) : Int32 := (if ((f_M_isBroker x1)) = 0 then 0 else (if 0 ≤ x2 then (if (G 3 (G 7 x1.toNatClampNeg).toNatClampNeg) ≤ x2 then 0 else ((f_M_upTo x1 (x2 + 1) G))) else 0))
theorem e_M_recordAt : y_M_recordAt.cls ≠ "java/lang/invoke/MethodHandle" ∧ y_M_recordAt.cls ≠ "java/lang/invoke/VarHandle" ∧ (parseMethodDescriptor y_M_recordAt.desc).map (fun d => d.parameters.length) = some 2 := by decide +kernel
set_option maxHeartbeats 4000000 in
set_option maxRecDepth 100000 in
theorem m_M_recordAt (l : Launch) (D : va_G) (cI cZ cB cM : ClassId) (a : Nat → Nat) (hJ : xJ 27 a) (G : Nat → Nat → Int32) (x1 : Int32) (x2 : Int32) (hT : okT G) : Met l y_M_recordAt (Cond.code y_M_recordAt prog_8_method_12_code 3 (Option.some FieldType.int) :: wsBig) { frames := 1, cells := 0, slots := 0, locals := 23 } (xP D xcl (xty cI cZ cB cM) 27 a (kg (kM cI cZ a) G) [.ref (a 0), .int x1, .int x2]) (xQi D xcl 27 a (f_M_recordAt x1 x2 G) (kg (kM cI cZ a) G)) 0 0 (xA 27 a) := by
  refine X_met (by decide) rfl (Nat.le_of_ble_eq_true rfl) hJ (fun Y s m args Γ => ?_)
  show X Y s m D xcl 27 a 3 (kg (kM cI cZ a) G) 0 [(0, .ref (a 0)), (1, .int x1), (2, .int x2)] []
  have E := f_M_recordAt.eq_1 x1 x2 G
  refine X_iload_n Γ d_M_recordAt_0 rfl 1 rfl rfl ?_
  refine X_callSi (rest := []) Γ d_M_recordAt_1 (m_M_isBroker l D _ _ _ _ hJ _ _ x1) w592 w593 w9 w594 e_M_isBroker ⟨by decide, by decide⟩ ⟨rfl, rfl⟩ rfl rfl (Nat.le_of_ble_eq_true rfl) rfl ?_
  refine X_if_eq (tgt := 11) Γ d_M_recordAt_4 (by decide) rfl (fun h4 => ?_) (fun h4 => ?_)
  · replace E := E.trans (if_pos h4)
    refine X_iconst (v := 0) Γ d_M_recordAt_11 (by decide) rfl ?_
    exact X_ireti Γ d_M_recordAt_12 E.symm rfl
  · replace E := E.trans (if_neg h4)
    refine X_iload_n Γ d_M_recordAt_7 rfl 2 rfl rfl ?_
    refine X_if_ge (tgt := 13) Γ d_M_recordAt_8 (by decide) rfl (fun h8 => ?_) (fun h8 => ?_)
    · replace E := E.trans (if_pos h8)
      refine X_iload_n Γ d_M_recordAt_13 rfl 2 rfl rfl ?_
      refine X_aload_n Γ d_M_recordAt_14 rfl 0 rfl rfl ?_
      refine X_get Γ d_M_recordAt_15 (by decide) rfl rfl in_M 9 (by decide) w489 rfl rfl rfl ?_
      refine X_aload_n Γ d_M_recordAt_18 rfl 0 rfl rfl ?_
      refine X_get Γ d_M_recordAt_19 (by decide) rfl rfl in_M 13 (by decide) w493 rfl rfl rfl ?_
      refine X_iload_n Γ d_M_recordAt_22 rfl 1 rfl rfl ?_
      refine X_iald (v := (G 7 x1.toNatClampNeg)) Γ d_M_recordAt_23 (by decide) rfl 0 rfl (isBM_in h4) rfl rfl ?_
      refine X_iald (v := (G 3 (G 7 x1.toNatClampNeg).toNatClampNeg)) Γ d_M_recordAt_24 (by decide) rfl 0 rfl (hT.1 _ (vp_lt (isBM_in h4))) rfl rfl ?_
      refine X_icmp_ge (tgt := 39) Γ d_M_recordAt_25 (by decide) rfl (fun h25 => ?_) (fun h25 => ?_)
      · replace E := E.trans (if_pos h25)
        refine X_iconst (v := 0) Γ d_M_recordAt_39 (by decide) rfl ?_
        exact X_ireti Γ d_M_recordAt_40 E.symm rfl
      · replace E := E.trans (if_neg h25)
        refine X_aload_n Γ d_M_recordAt_28 rfl 0 rfl rfl ?_
        refine X_iload_n Γ d_M_recordAt_29 rfl 1 rfl rfl ?_
        refine X_iload_n Γ d_M_recordAt_30 rfl 2 rfl rfl ?_
        refine X_iconst (v := 1) Γ d_M_recordAt_31 (by decide) rfl ?_
        refine X_iadd Γ d_M_recordAt_32 rfl ?_
        refine X_callVi (rest := []) Γ d_M_recordAt_33 (m_M_upTo l D cI cZ cB cM a hJ G x1 (x2 + 1) (isBM_in h4) hT (ra_pos h8 h25)) (by decide) rfl rfl rfl w619 w621 s_M_upTo w9 w622 e_M_upTo ⟨by decide, by decide⟩ ⟨rfl, rfl⟩ rfl rfl (Nat.le_of_ble_eq_true rfl) rfl ?_
        refine X_goto (pc' := 40) Γ d_M_recordAt_36 (by decide) ?_
        exact X_ireti Γ d_M_recordAt_40 E.symm rfl
    · replace E := E.trans (if_neg h8)
      refine X_iconst (v := 0) Γ d_M_recordAt_11 (by decide) rfl ?_
      exact X_ireti Γ d_M_recordAt_12 E.symm rfl
def f_M_send (x1 : Int32) (x2 : Int32) (x3 : Int32) (x4 : Int32) (x5 : Int32) (x6 : Int32) (x7 : Int32) (G : Nat → Nat → Int32) : Int32 × (Nat → Nat → Int32) := (if (G 0 24) < 8 then (1, (g2 (g2 (g2 (g2 (g2 (g2 (g2 (g2 (g2 G 18 (G 0 24).toNatClampNeg x1) 19 (G 0 24).toNatClampNeg x2) 20 (G 0 24).toNatClampNeg x3) 21 (G 0 24).toNatClampNeg x4) 22 (G 0 24).toNatClampNeg x5) 23 (G 0 24).toNatClampNeg x6) 24 (G 0 24).toNatClampNeg x7) 25 (G 0 24).toNatClampNeg 0) 0 24 ((G 0 24) + 1))) else (0, G))
theorem e_M_send : y_M_send.cls ≠ "java/lang/invoke/MethodHandle" ∧ y_M_send.cls ≠ "java/lang/invoke/VarHandle" ∧ (parseMethodDescriptor y_M_send.desc).map (fun d => d.parameters.length) = some 7 := by decide +kernel
set_option maxHeartbeats 4000000 in
set_option maxRecDepth 100000 in
theorem m_M_send (l : Launch) (D : va_G) (cI cZ cB cM : ClassId) (a : Nat → Nat) (hJ : xJ 27 a) (G : Nat → Nat → Int32) (x1 : Int32) (x2 : Int32) (x3 : Int32) (x4 : Int32) (x5 : Int32) (x6 : Int32) (x7 : Int32) (hc : okK G) : Met l y_M_send (Cond.code y_M_send prog_8_method_18_code 8 (Option.some FieldType.boolean) :: wsBig) { frames := 0, cells := 0, slots := 0, locals := 0 } (xP D xcl (xty cI cZ cB cM) 27 a (kg (kM cI cZ a) G) [.ref (a 0), .int x1, .int x2, .int x3, .int x4, .int x5, .int x6, .int x7]) (xQi D xcl 27 a ((f_M_send x1 x2 x3 x4 x5 x6 x7 G).1) (kg (kM cI cZ a) ((f_M_send x1 x2 x3 x4 x5 x6 x7 G).2))) 0 0 (xA 27 a) := by
  refine X_met (by decide) rfl (Nat.le_of_ble_eq_true rfl) hJ (fun Y s m args Γ => ?_)
  show X Y s m D xcl 27 a 8 (kg (kM cI cZ a) G) 0 [(0, .ref (a 0)), (1, .int x1), (2, .int x2), (3, .int x3), (4, .int x4), (5, .int x5), (6, .int x6), (7, .int x7)] []
  have E := f_M_send.eq_1 x1 x2 x3 x4 x5 x6 x7 G
  refine X_aload_n Γ d_M_send_0 rfl 0 rfl rfl ?_
  refine X_get Γ d_M_send_1 (by decide) rfl rfl in_M 24 (by decide) w504 rfl rfl rfl ?_
  refine X_bipush (v := 8) Γ d_M_send_4 (by decide) rfl ?_
  refine X_icmp_lt (tgt := 11) Γ d_M_send_6 (by decide) rfl (fun h6 => ?_) (fun h6 => ?_)
  · replace E := E.trans (if_pos h6)
    refine X_aload_n Γ d_M_send_11 rfl 0 rfl rfl ?_
    refine X_get Γ d_M_send_12 (by decide) rfl rfl in_M 25 (by decide) w505 rfl rfl rfl ?_
    refine X_aload_n Γ d_M_send_15 rfl 0 rfl rfl ?_
    refine X_get Γ d_M_send_16 (by decide) rfl rfl in_M 24 (by decide) w504 rfl rfl rfl ?_
    refine X_iload_n Γ d_M_send_19 rfl 1 rfl rfl ?_
    refine X_iast (kx := (G 0 24).toNatClampNeg) Γ d_M_send_20 (by decide) rfl 0 rfl (ck_in hc h6) (fun _ => rfl) rfl rfl ?_
    refine X_aload_n Γ d_M_send_21 rfl 0 rfl rfl ?_
    refine X_get Γ d_M_send_22 (by decide) rfl rfl in_M 26 (by decide) w506 rfl rfl rfl ?_
    refine X_aload_n Γ d_M_send_25 rfl 0 rfl rfl ?_
    refine X_get (v := .int (G 0 24)) Γ d_M_send_26 (by decide) rfl rfl in_M 24 (by decide) w504 rfl rfl rfl ?_
    refine X_iload_n Γ d_M_send_29 rfl 2 rfl rfl ?_
    refine X_iast (kx := (G 0 24).toNatClampNeg) Γ d_M_send_30 (by decide) rfl 0 rfl (ck_in hc h6) (fun _ => rfl) rfl rfl ?_
    refine X_aload_n Γ d_M_send_31 rfl 0 rfl rfl ?_
    refine X_get Γ d_M_send_32 (by decide) rfl rfl in_M 27 (by decide) w507 rfl rfl rfl ?_
    refine X_aload_n Γ d_M_send_35 rfl 0 rfl rfl ?_
    refine X_get (v := .int (G 0 24)) Γ d_M_send_36 (by decide) rfl rfl in_M 24 (by decide) w504 rfl rfl rfl ?_
    refine X_iload_n Γ d_M_send_39 rfl 3 rfl rfl ?_
    refine X_iast (kx := (G 0 24).toNatClampNeg) Γ d_M_send_40 (by decide) rfl 0 rfl (ck_in hc h6) (fun _ => rfl) rfl rfl ?_
    refine X_aload_n Γ d_M_send_41 rfl 0 rfl rfl ?_
    refine X_get Γ d_M_send_42 (by decide) rfl rfl in_M 28 (by decide) w508 rfl rfl rfl ?_
    refine X_aload_n Γ d_M_send_45 rfl 0 rfl rfl ?_
    refine X_get (v := .int (G 0 24)) Γ d_M_send_46 (by decide) rfl rfl in_M 24 (by decide) w504 rfl rfl rfl ?_
    refine X_iload Γ d_M_send_49 4 rfl rfl ?_
    refine X_iast (kx := (G 0 24).toNatClampNeg) Γ d_M_send_51 (by decide) rfl 0 rfl (ck_in hc h6) (fun _ => rfl) rfl rfl ?_
    refine X_aload_n Γ d_M_send_52 rfl 0 rfl rfl ?_
    refine X_get Γ d_M_send_53 (by decide) rfl rfl in_M 29 (by decide) w509 rfl rfl rfl ?_
    refine X_aload_n Γ d_M_send_56 rfl 0 rfl rfl ?_
    refine X_get (v := .int (G 0 24)) Γ d_M_send_57 (by decide) rfl rfl in_M 24 (by decide) w504 rfl rfl rfl ?_
    refine X_iload Γ d_M_send_60 5 rfl rfl ?_
    refine X_iast (kx := (G 0 24).toNatClampNeg) Γ d_M_send_62 (by decide) rfl 0 rfl (ck_in hc h6) (fun _ => rfl) rfl rfl ?_
    refine X_aload_n Γ d_M_send_63 rfl 0 rfl rfl ?_
    refine X_get Γ d_M_send_64 (by decide) rfl rfl in_M 30 (by decide) w510 rfl rfl rfl ?_
    refine X_aload_n Γ d_M_send_67 rfl 0 rfl rfl ?_
    refine X_get (v := .int (G 0 24)) Γ d_M_send_68 (by decide) rfl rfl in_M 24 (by decide) w504 rfl rfl rfl ?_
    refine X_iload Γ d_M_send_71 6 rfl rfl ?_
    refine X_iast (kx := (G 0 24).toNatClampNeg) Γ d_M_send_73 (by decide) rfl 0 rfl (ck_in hc h6) (fun _ => rfl) rfl rfl ?_
    refine X_aload_n Γ d_M_send_74 rfl 0 rfl rfl ?_
    refine X_get Γ d_M_send_75 (by decide) rfl rfl in_M 31 (by decide) w511 rfl rfl rfl ?_
    refine X_aload_n Γ d_M_send_78 rfl 0 rfl rfl ?_
    refine X_get (v := .int (G 0 24)) Γ d_M_send_79 (by decide) rfl rfl in_M 24 (by decide) w504 rfl rfl rfl ?_
    refine X_iload Γ d_M_send_82 7 rfl rfl ?_
    refine X_iast (kx := (G 0 24).toNatClampNeg) Γ d_M_send_84 (by decide) rfl 0 rfl (ck_in hc h6) (fun _ => rfl) rfl rfl ?_
    refine X_aload_n Γ d_M_send_85 rfl 0 rfl rfl ?_
    refine X_get Γ d_M_send_86 (by decide) rfl rfl in_M 32 (by decide) w512 rfl rfl rfl ?_
    refine X_aload_n Γ d_M_send_89 rfl 0 rfl rfl ?_
    refine X_get (v := .int (G 0 24)) Γ d_M_send_90 (by decide) rfl rfl in_M 24 (by decide) w504 rfl rfl rfl ?_
    refine X_iconst (v := 0) Γ d_M_send_93 (by decide) rfl ?_
    refine X_iast (kx := (G 0 24).toNatClampNeg) Γ d_M_send_94 (by decide) rfl 0 rfl (ck_in hc h6) (fun _ => rfl) rfl rfl ?_
    refine X_aload_n Γ d_M_send_95 rfl 0 rfl rfl ?_
    refine X_dup Γ d_M_send_96 rfl rfl ?_
    refine X_get (v := .int (G 0 24)) Γ d_M_send_97 (by decide) rfl rfl in_M 24 (by decide) w504 rfl rfl rfl ?_
    refine X_iconst (v := 1) Γ d_M_send_100 (by decide) rfl ?_
    refine X_iadd Γ d_M_send_101 rfl ?_
    refine X_put (ty := .int) Γ d_M_send_102 (by decide) rfl rfl in_M 24 (by decide) w504 rfl ty_M ty_M_ok nm_M rfl (by decide +kernel) rfl rfl (Nat.le_of_ble_eq_true rfl) kp_M_24 rfl ?_
    refine X_iconst (v := 1) Γ d_M_send_105 (by decide) rfl ?_
    exact X_iretz Γ d_M_send_106 rfl (g_r E) (g_eq E)
  · replace E := E.trans (if_neg h6)
    refine X_iconst (v := 0) Γ d_M_send_9 (by decide) rfl ?_
    exact X_iretz Γ d_M_send_10 rfl (g_r E) (g_eq E)
def f_M_move (x1 : Int32) (x2 : Int32) (G : Nat → Nat → Int32) : (Nat → Nat → Int32) := (g2 (g2 (g2 (g2 (g2 (g2 (g2 (g2 G 18 x2.toNatClampNeg (G 18 x1.toNatClampNeg)) 19 x2.toNatClampNeg (G 19 x1.toNatClampNeg)) 20 x2.toNatClampNeg (G 20 x1.toNatClampNeg)) 21 x2.toNatClampNeg (G 21 x1.toNatClampNeg)) 22 x2.toNatClampNeg (G 22 x1.toNatClampNeg)) 23 x2.toNatClampNeg (G 23 x1.toNatClampNeg)) 24 x2.toNatClampNeg (G 24 x1.toNatClampNeg)) 25 x2.toNatClampNeg (G 25 x1.toNatClampNeg))
theorem e_M_move : y_M_move.cls ≠ "java/lang/invoke/MethodHandle" ∧ y_M_move.cls ≠ "java/lang/invoke/VarHandle" ∧ (parseMethodDescriptor y_M_move.desc).map (fun d => d.parameters.length) = some 2 := by decide +kernel
set_option maxHeartbeats 4000000 in
set_option maxRecDepth 100000 in
theorem m_M_move (l : Launch) (D : va_G) (cI cZ cB cM : ClassId) (a : Nat → Nat) (hJ : xJ 27 a) (G : Nat → Nat → Int32) (x1 : Int32) (x2 : Int32) (h1 : vp_in x1 8) (h2 : vp_in x2 8) : Met l y_M_move (Cond.code y_M_move prog_8_method_19_code 3 (Option.none : Option FieldType) :: wsBig) { frames := 0, cells := 0, slots := 0, locals := 0 } (xP D xcl (xty cI cZ cB cM) 27 a (kg (kM cI cZ a) G) [.ref (a 0), .int x1, .int x2]) (xQv D xcl 27 a (kg (kM cI cZ a) (f_M_move x1 x2 G))) 0 0 (xA 27 a) := by
  refine X_met (by decide) rfl (Nat.le_of_ble_eq_true rfl) hJ (fun Y s m args Γ => ?_)
  show X Y s m D xcl 27 a 3 (kg (kM cI cZ a) G) 0 [(0, .ref (a 0)), (1, .int x1), (2, .int x2)] []
  have E := f_M_move.eq_1 x1 x2 G
  refine X_aload_n Γ d_M_move_0 rfl 0 rfl rfl ?_
  refine X_get Γ d_M_move_1 (by decide) rfl rfl in_M 25 (by decide) w505 rfl rfl rfl ?_
  refine X_iload_n Γ d_M_move_4 rfl 2 rfl rfl ?_
  refine X_aload_n Γ d_M_move_5 rfl 0 rfl rfl ?_
  refine X_get Γ d_M_move_6 (by decide) rfl rfl in_M 25 (by decide) w505 rfl rfl rfl ?_
  refine X_iload_n Γ d_M_move_9 rfl 1 rfl rfl ?_
  refine X_iald (v := (G 18 x1.toNatClampNeg)) Γ d_M_move_10 (by decide) rfl 0 rfl h1 rfl rfl ?_
  refine X_iast (kx := x2.toNatClampNeg) Γ d_M_move_11 (by decide) rfl 0 rfl h2 (fun _ => rfl) rfl rfl ?_
  refine X_aload_n Γ d_M_move_12 rfl 0 rfl rfl ?_
  refine X_get Γ d_M_move_13 (by decide) rfl rfl in_M 26 (by decide) w506 rfl rfl rfl ?_
  refine X_iload_n Γ d_M_move_16 rfl 2 rfl rfl ?_
  refine X_aload_n Γ d_M_move_17 rfl 0 rfl rfl ?_
  refine X_get Γ d_M_move_18 (by decide) rfl rfl in_M 26 (by decide) w506 rfl rfl rfl ?_
  refine X_iload_n Γ d_M_move_21 rfl 1 rfl rfl ?_
  refine X_iald (v := (G 19 x1.toNatClampNeg)) Γ d_M_move_22 (by decide) rfl 0 rfl h1 rfl rfl ?_
  refine X_iast (kx := x2.toNatClampNeg) Γ d_M_move_23 (by decide) rfl 0 rfl h2 (fun _ => rfl) rfl rfl ?_
  refine X_aload_n Γ d_M_move_24 rfl 0 rfl rfl ?_
  refine X_get Γ d_M_move_25 (by decide) rfl rfl in_M 27 (by decide) w507 rfl rfl rfl ?_
  refine X_iload_n Γ d_M_move_28 rfl 2 rfl rfl ?_
  refine X_aload_n Γ d_M_move_29 rfl 0 rfl rfl ?_
  refine X_get Γ d_M_move_30 (by decide) rfl rfl in_M 27 (by decide) w507 rfl rfl rfl ?_
  refine X_iload_n Γ d_M_move_33 rfl 1 rfl rfl ?_
  refine X_iald (v := (G 20 x1.toNatClampNeg)) Γ d_M_move_34 (by decide) rfl 0 rfl h1 rfl rfl ?_
  refine X_iast (kx := x2.toNatClampNeg) Γ d_M_move_35 (by decide) rfl 0 rfl h2 (fun _ => rfl) rfl rfl ?_
  refine X_aload_n Γ d_M_move_36 rfl 0 rfl rfl ?_
  refine X_get Γ d_M_move_37 (by decide) rfl rfl in_M 28 (by decide) w508 rfl rfl rfl ?_
  refine X_iload_n Γ d_M_move_40 rfl 2 rfl rfl ?_
  refine X_aload_n Γ d_M_move_41 rfl 0 rfl rfl ?_
  refine X_get Γ d_M_move_42 (by decide) rfl rfl in_M 28 (by decide) w508 rfl rfl rfl ?_
  refine X_iload_n Γ d_M_move_45 rfl 1 rfl rfl ?_
  refine X_iald (v := (G 21 x1.toNatClampNeg)) Γ d_M_move_46 (by decide) rfl 0 rfl h1 rfl rfl ?_
  refine X_iast (kx := x2.toNatClampNeg) Γ d_M_move_47 (by decide) rfl 0 rfl h2 (fun _ => rfl) rfl rfl ?_
  refine X_aload_n Γ d_M_move_48 rfl 0 rfl rfl ?_
  refine X_get Γ d_M_move_49 (by decide) rfl rfl in_M 29 (by decide) w509 rfl rfl rfl ?_
  refine X_iload_n Γ d_M_move_52 rfl 2 rfl rfl ?_
  refine X_aload_n Γ d_M_move_53 rfl 0 rfl rfl ?_
  refine X_get Γ d_M_move_54 (by decide) rfl rfl in_M 29 (by decide) w509 rfl rfl rfl ?_
  refine X_iload_n Γ d_M_move_57 rfl 1 rfl rfl ?_
  refine X_iald (v := (G 22 x1.toNatClampNeg)) Γ d_M_move_58 (by decide) rfl 0 rfl h1 rfl rfl ?_
  refine X_iast (kx := x2.toNatClampNeg) Γ d_M_move_59 (by decide) rfl 0 rfl h2 (fun _ => rfl) rfl rfl ?_
  refine X_aload_n Γ d_M_move_60 rfl 0 rfl rfl ?_
  refine X_get Γ d_M_move_61 (by decide) rfl rfl in_M 30 (by decide) w510 rfl rfl rfl ?_
  refine X_iload_n Γ d_M_move_64 rfl 2 rfl rfl ?_
  refine X_aload_n Γ d_M_move_65 rfl 0 rfl rfl ?_
  refine X_get Γ d_M_move_66 (by decide) rfl rfl in_M 30 (by decide) w510 rfl rfl rfl ?_
  refine X_iload_n Γ d_M_move_69 rfl 1 rfl rfl ?_
  refine X_iald (v := (G 23 x1.toNatClampNeg)) Γ d_M_move_70 (by decide) rfl 0 rfl h1 rfl rfl ?_
  refine X_iast (kx := x2.toNatClampNeg) Γ d_M_move_71 (by decide) rfl 0 rfl h2 (fun _ => rfl) rfl rfl ?_
  refine X_aload_n Γ d_M_move_72 rfl 0 rfl rfl ?_
  refine X_get Γ d_M_move_73 (by decide) rfl rfl in_M 31 (by decide) w511 rfl rfl rfl ?_
  refine X_iload_n Γ d_M_move_76 rfl 2 rfl rfl ?_
  refine X_aload_n Γ d_M_move_77 rfl 0 rfl rfl ?_
  refine X_get Γ d_M_move_78 (by decide) rfl rfl in_M 31 (by decide) w511 rfl rfl rfl ?_
  refine X_iload_n Γ d_M_move_81 rfl 1 rfl rfl ?_
  refine X_iald (v := (G 24 x1.toNatClampNeg)) Γ d_M_move_82 (by decide) rfl 0 rfl h1 rfl rfl ?_
  refine X_iast (kx := x2.toNatClampNeg) Γ d_M_move_83 (by decide) rfl 0 rfl h2 (fun _ => rfl) rfl rfl ?_
  refine X_aload_n Γ d_M_move_84 rfl 0 rfl rfl ?_
  refine X_get Γ d_M_move_85 (by decide) rfl rfl in_M 32 (by decide) w512 rfl rfl rfl ?_
  refine X_iload_n Γ d_M_move_88 rfl 2 rfl rfl ?_
  refine X_aload_n Γ d_M_move_89 rfl 0 rfl rfl ?_
  refine X_get Γ d_M_move_90 (by decide) rfl rfl in_M 32 (by decide) w512 rfl rfl rfl ?_
  refine X_iload_n Γ d_M_move_93 rfl 1 rfl rfl ?_
  refine X_iald (v := (G 25 x1.toNatClampNeg)) Γ d_M_move_94 (by decide) rfl 0 rfl h1 rfl rfl ?_
  refine X_iast (kx := x2.toNatClampNeg) Γ d_M_move_95 (by decide) rfl 0 rfl h2 (fun _ => rfl) rfl rfl ?_
  exact X_vret Γ d_M_move_96 (gv_eq E)
theorem ra_in {x1 x2 : Int32} {G : Nat → Nat → Int32} (hT : okT G) : vp_in (f_M_recordAt x1 x2 G) 520 := by
  unfold f_M_recordAt
  by_cases h4 : f_M_isBroker x1 = 0
  · rw [if_pos h4]; exact in0_520
  · rw [if_neg h4]
    by_cases h8 : 0 ≤ x2
    · rw [if_pos h8]
      by_cases h25 : G 3 (G 7 x1.toNatClampNeg).toNatClampNeg ≤ x2
      · rw [if_pos h25]; exact in0_520
      · rw [if_neg h25]; exact ut_in (isBM_in h4) hT (ra_pos h8 h25)
    · rw [if_neg h8]; exact in0_520
theorem rise_14 {x1 : Int32} {G : Nat → Nat → Int32} : ∀ (k : Nat) (v w : Int32), ∃ x : Int32, f_M_rise_14 x1 G k v w = g2 G 8 x1.toNatClampNeg x ∨ f_M_rise_14 x1 G k v w = G := by
  intro k
  induction k with
  | zero => intro v w; exact ⟨0, Or.inr rfl⟩
  | succ k ih =>
    intro v w
    rw [f_M_rise_14]
    by_cases h : 4 ≤ w
    · rw [if_pos h]
      split
      · exact ⟨_, Or.inl rfl⟩
      · exact ⟨_, Or.inl rfl⟩
    · rw [if_neg h]
      simp only [jn]
      repeat (first | exact ih _ _ | split)
theorem rise_ne {x1 : Int32} {G : Nat → Nat → Int32} {i : Nat} (h : i ≠ 8) : f_M_rise x1 G i = G i := by
  unfold f_M_rise
  obtain ⟨x, e | e⟩ := rise_14 (x1 := x1) (G := G) 5 (G 3 (G 7 x1.toNatClampNeg).toNatClampNeg) 0
  · rw [e, g2_ne _ _ _ h]
  · rw [e]
theorem rise_okT {x1 : Int32} {G : Nat → Nat → Int32} (h : okT G) : okT (f_M_rise x1 G) := okT_of3 h ⟨rise_ne (by decide), rise_ne (by decide), rise_ne (by decide)⟩
theorem rise_okK {x1 : Int32} {G : Nat → Nat → Int32} (h : okK G) : okK (f_M_rise x1 G) := by
  unfold okK
  rw [rise_ne (by decide)]
  exact h
theorem rise_D {x1 : Int32} {G : Nat → Nat → Int32} (h : ∀ x : Nat, x < 520 → 0 ≤ (G 3 x).toInt) {x : Nat} (hx : x < 520) : 0 ≤ (f_M_rise x1 G 3 x).toInt := by
  rw [rise_ne (by decide)]
  exact h x hx
theorem send_rows {x1 x2 x3 x4 x5 x6 x7 : Int32} {G : Nat → Nat → Int32} {i : Nat} (h0 : i ≠ 0) (h : i < 18 ∨ 25 < i) : (f_M_send x1 x2 x3 x4 x5 x6 x7 G).2 i = G i := by
  unfold f_M_send
  split
  · simp only [jn]
    repeat rw [g2_ne _ _ _ (by omega)]
  · rfl
theorem send_same3 {x1 x2 x3 x4 x5 x6 x7 : Int32} {G : Nat → Nat → Int32} : same3 G (f_M_send x1 x2 x3 x4 x5 x6 x7 G).2 := ⟨send_rows (by decide) (by decide), send_rows (by decide) (by decide), send_rows (by decide) (by decide)⟩
theorem an_cnt {x1 x2 x3 x4 x5 x6 x7 : Int32} {G : Nat → Nat → Int32} (h : ¬ (f_M_send x1 x2 x3 x4 x5 x6 x7 G).1 = 0) (hc : okK G) : vp_in ((f_M_send x1 x2 x3 x4 x5 x6 x7 G).2 0 24 - 1) 8 := by
  by_cases q : G 0 24 < 8
  · have e : (f_M_send x1 x2 x3 x4 x5 x6 x7 G).2 0 24 = G 0 24 + 1 := by
      unfold f_M_send
      rw [if_pos q]
      rfl
    have h1 := ck_in hc q
    rw [e, Int32.add_sub_cancel]
    exact h1
  · exfalso
    apply h
    unfold f_M_send
    rw [if_neg q]
theorem move_rows {x1 x2 : Int32} {G : Nat → Nat → Int32} {i : Nat} (h : i < 18 ∨ 25 < i) : f_M_move x1 x2 G i = G i := by
  unfold f_M_move
  try simp only [jn]
  repeat rw [g2_ne _ _ _ (by omega)]
theorem rm_init {x : Int32} {G : Nat → Nat → Int32} (hc : okK G) (hi : 0 ≤ x.toInt ∧ x.toInt < (G 0 24).toInt) : 9 - (x + 1).toInt < ((10 : Nat) : Int) ∧ 1 ≤ (x + 1).toInt ∧ (x + 1).toInt ≤ 8 ∧ G 0 24 = G 0 24 := by
  have h2 := hc.2
  rw [i_add (by rw [i1]; omega) (by rw [i1]; omega), i1]
  exact ⟨by omega, by omega, by omega, rfl⟩
theorem rm_lt {v : Int32} {k : Nat} {G Gv : Nat → Nat → Int32} (hc : okK G) (hI : 9 - v.toInt < ((k + 1 : Nat) : Int) ∧ 1 ≤ v.toInt ∧ v.toInt ≤ 8 ∧ Gv 0 24 = G 0 24) (h : ¬ Gv 0 24 ≤ v) : 1 ≤ v.toInt ∧ v.toInt < 8 := by
  rw [hI.2.2.2, i_le] at h
  have := hc.2
  omega
theorem rm_in {v : Int32} {k : Nat} {G Gv : Nat → Nat → Int32} (hc : okK G) (hI : 9 - v.toInt < ((k + 1 : Nat) : Int) ∧ 1 ≤ v.toInt ∧ v.toInt ≤ 8 ∧ Gv 0 24 = G 0 24) (h : ¬ Gv 0 24 ≤ v) : vp_in v 8 := by
  have := rm_lt hc hI h
  rw [vp_in_iff]
  omega
theorem rm_in2 {v : Int32} {k : Nat} {G Gv : Nat → Nat → Int32} (hc : okK G) (hI : 9 - v.toInt < ((k + 1 : Nat) : Int) ∧ 1 ≤ v.toInt ∧ v.toInt ≤ 8 ∧ Gv 0 24 = G 0 24) (h : ¬ Gv 0 24 ≤ v) : vp_in (v - 1) 8 := by
  have := rm_lt hc hI h
  rw [vp_in_iff, i_sub (by rw [i1]; omega) (by rw [i1]; omega), i1]
  omega
theorem rm_step {v : Int32} {k : Nat} {G Gv : Nat → Nat → Int32} (hc : okK G) (hI : 9 - v.toInt < ((k + 1 : Nat) : Int) ∧ 1 ≤ v.toInt ∧ v.toInt ≤ 8 ∧ Gv 0 24 = G 0 24) (h : ¬ Gv 0 24 ≤ v) : 9 - (v + 1).toInt < (k : Int) ∧ 1 ≤ (v + 1).toInt ∧ (v + 1).toInt ≤ 8 ∧ f_M_move v (v - 1) Gv 0 24 = G 0 24 := by
  have h1 := rm_lt hc hI h
  have h2 := hI.2.2.2
  rw [i_add (by rw [i1]; omega) (by rw [i1]; omega), i1, move_rows (by omega)]
  exact ⟨by omega, by omega, by omega, h2⟩
theorem an_168 {x1 t u : Int32} {i j : Nat} {G : Nat → Nat → Int32} (hT : okT G) (hc : okK G) (hB : 1 ≤ (G 0 1).toInt ∧ (G 0 1).toInt ≤ 3) (hD : ∀ x : Nat, x < 520 → 0 ≤ (G 3 x).toInt) : okT (f_M_rise x1 (g2 (g2 G 15 i t) 16 j u)) ∧ okK (f_M_rise x1 (g2 (g2 G 15 i t) 16 j u)) ∧ (1 ≤ (f_M_rise x1 (g2 (g2 G 15 i t) 16 j u) 0 1).toInt ∧ (f_M_rise x1 (g2 (g2 G 15 i t) 16 j u) 0 1).toInt ≤ 3) ∧ ∀ x : Nat, x < 520 → 0 ≤ (f_M_rise x1 (g2 (g2 G 15 i t) 16 j u) 3 x).toInt := by
  have e : ∀ r : Nat, r ≠ 8 → r ≠ 15 → r ≠ 16 → f_M_rise x1 (g2 (g2 G 15 i t) 16 j u) r = G r := fun r h1 h2 h3 => by rw [rise_ne h1, g2_ne _ _ _ h3, g2_ne _ _ _ h2]
  refine ⟨okT_of3 hT ⟨e 7 (by decide) (by decide) (by decide), e 2 (by decide) (by decide) (by decide), e 3 (by decide) (by decide) (by decide)⟩, ?_, ?_, ?_⟩
  · unfold okK
    rw [e 0 (by decide) (by decide) (by decide)]
    exact hc
  · rw [e 0 (by decide) (by decide) (by decide)]
    exact hB
  · intro x hx
    rw [e 3 (by decide) (by decide) (by decide)]
    exact hD x hx
