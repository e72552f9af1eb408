theorem arrV_congr {cA : ClassId} {N : Nat} {f g : Nat → Value} (h : ∀ j, j < N → f j = g j) : arrV cA N f = arrV cA N g := by
  have e : (fun j : Fin N => f j.val) = (fun j : Fin N => g j.val) := funext fun j => h j.val j.isLt
  unfold arrV
  rw [e]
theorem vp_lit {i : Int32} {n : Nat} (h : ¬ (i < 0 ∨ n ≤ i.toNatClampNeg)) : vp_in i n := h
theorem xJ0 {a : Nat → Nat} : xJ 0 a := fun i _ h _ _ => absurd h (Nat.not_lt_zero i)
theorem xJ1 {a : Nat → Nat} : xJ 1 a := fun i j h1 h2 _ => by omega
theorem aq_conv {D : va_G} {cl : List vw_C} {q n : Nat} {cA : ClassId} {f g : Nat → Option Nat} {H : Heap} (h : ∀ j, j < n → f j = g j) (hh : va_at D cl (q, .inl (cA, n, .inr (.inr (.inr (.inr f))))) H) : va_at D cl (q, .inl (cA, n, .inr (.inr (.inr (.inr g))))) H := by
  have e : vp_cell cA (n, .inr (.inr (.inr (.inr f)))) = vp_cell cA (n, .inr (.inr (.inr (.inr g)))) := by
    rw [vp_cell_q, vp_cell_q]
    exact arrV_congr (fun j hj => by rw [h j hj])
  show H[q]? = some (vp_cell cA (n, .inr (.inr (.inr (.inr g)))))
  rw [← e]
  exact hh
theorem Z_perm {Y : Nat → Nat → Heap → List Loc → JFrame → Prop} {s : State} {m : MethodId} {D : va_G} {cl : List vw_C} {A : Nat → Prop} {nL cn sn pc N9 : Nat} {w : va_W} {L : List (Nat × Value)} {st : List Value} {a9 : Nat → Nat} {E9 : Nat → va_E} (is : List Nat) (hnd : va_nd is = true)
    (h : ∀ n, n < N9 → ∃ e : va_E, (is[n]?.bind fun i => w[i]?) = some (a9 n, e) ∧ ∀ H : Heap, va_at D cl (a9 n, e) H → va_at D cl (a9 n, E9 n) H) (kk : Z Y s m D cl A nL (xw N9 a9 E9) cn sn pc L st) : Z Y s m D cl A nL w cn sn pc L st := by
  have key : ∀ n, n < N9 → ∃ (i : Nat) (e : va_E), is[n]? = some i ∧ w[i]? = some (a9 n, e) ∧ ∀ H : Heap, va_at D cl (a9 n, e) H → va_at D cl (a9 n, E9 n) H := fun n hn => by
    obtain ⟨e, h1, h2⟩ := h n hn
    cases hi : is[n]? with
    | none => rw [hi] at h1; cases h1
    | some i => rw [hi] at h1; exact ⟨i, e, rfl, h1, h2⟩
  refine Z_world (fun H hP k q hk => ?_) (fun hD => ⟨fun i j p q hp hq e => ?_, fun k q hk => ?_⟩) kk
  · obtain ⟨g1, rfl⟩ := xw_of hk
    obtain ⟨i, e, h1, h2, h3⟩ := key k g1
    exact h3 H (hP i _ h2)
  · obtain ⟨g1, rfl⟩ := xw_of hp
    obtain ⟨g2, rfl⟩ := xw_of hq
    obtain ⟨i1, e1, h1, h2, _⟩ := key i g1
    obtain ⟨i2, e2, k1, k2, _⟩ := key j g2
    have hij := hD.1 i1 i2 _ _ h2 k2 e
    subst hij
    exact va_nd_inj is hnd i j i1 h1 k1
  · obtain ⟨g1, rfl⟩ := xw_of hk
    obtain ⟨i, e, h1, h2, _⟩ := key k g1
    show A (a9 k)
    exact hD.2 i (a9 k, e) h2
theorem df_B : ∀ j, j < 12 → defaultValue (ty_B j) = vp_V [.int 0, .null, .null, .null, .int 0, .int 0, .int 0, .int 0, .int 0, .int 0, .int 0, .int 0] j := fun j hj => match j, hj with
  | 0, _ => rfl
  | 1, _ => rfl
  | 2, _ => rfl
  | 3, _ => rfl
  | 4, _ => rfl
  | 5, _ => rfl
  | 6, _ => rfl
  | 7, _ => rfl
  | 8, _ => rfl
  | 9, _ => rfl
  | 10, _ => rfl
  | 11, _ => rfl
  | q + 12, h => absurd h (by omega)
theorem df_H : ∀ j, j < 2 → defaultValue (ty_H j) = vp_V [.null, .int 0] j := fun j hj => match j, hj with
  | 0, _ => rfl
  | 1, _ => rfl
  | q + 2, h => absurd h (by omega)
theorem df_T : ∀ j, j < 3 → defaultValue (ty_T j) = vp_V [.int 0, .int 0, .int 0] j := fun j hj => match j, hj with
  | 0, _ => rfl
  | 1, _ => rfl
  | 2, _ => rfl
  | q + 3, h => absurd h (by omega)
theorem df_L : ∀ j, j < 3 → defaultValue (ty_L j) = vp_V [.null, .null, .int 0] j := fun j hj => match j, hj with
  | 0, _ => rfl
  | 1, _ => rfl
  | 2, _ => rfl
  | q + 3, h => absurd h (by omega)
theorem df_G : ∀ j, j < 9 → defaultValue (ty_G j) = vp_V [.null, .null, .int 0, .int 0, .int 0, .int 0, .int 0, .int 0, .int 0] j := fun j hj => match j, hj with
  | 0, _ => rfl
  | 1, _ => rfl
  | 2, _ => rfl
  | 3, _ => rfl
  | 4, _ => rfl
  | 5, _ => rfl
  | 6, _ => rfl
  | 7, _ => rfl
  | 8, _ => rfl
  | q + 9, h => absurd h (by omega)
theorem df_I : ∀ j, j < 7 → defaultValue (ty_I j) = vp_V [.int 0, .int 0, .int 0, .null, .null, .null, .int 0] j := fun j hj => match j, hj with
  | 0, _ => rfl
  | 1, _ => rfl
  | 2, _ => rfl
  | 3, _ => rfl
  | 4, _ => rfl
  | 5, _ => rfl
  | 6, _ => rfl
  | q + 7, h => absurd h (by omega)
theorem df_M : ∀ j, j < 34 → defaultValue (ty_M j) = vp_V [.int 0, .int 0, .int 0, .int 0, .int 0, .int 0, .null, .int 0, .null, .null, .null, .null, .null, .null, .null, .null, .null, .null, .null, .null, .null, .null, .null, .null, .int 0, .null, .null, .null, .null, .null, .null, .null, .null, .null] j := fun j hj => match j, hj with
  | 0, _ => rfl
  | 1, _ => rfl
  | 2, _ => rfl
  | 3, _ => rfl
  | 4, _ => rfl
  | 5, _ => rfl
  | 6, _ => rfl
  | 7, _ => rfl
  | 8, _ => rfl
  | 9, _ => rfl
  | 10, _ => rfl
  | 11, _ => rfl
  | 12, _ => rfl
  | 13, _ => rfl
  | 14, _ => rfl
  | 15, _ => rfl
  | 16, _ => rfl
  | 17, _ => rfl
  | 18, _ => rfl
  | 19, _ => rfl
  | 20, _ => rfl
  | 21, _ => rfl
  | 22, _ => rfl
  | 23, _ => rfl
  | 24, _ => rfl
  | 25, _ => rfl
  | 26, _ => rfl
  | 27, _ => rfl
  | 28, _ => rfl
  | 29, _ => rfl
  | 30, _ => rfl
  | 31, _ => rfl
  | 32, _ => rfl
  | 33, _ => rfl
  | q + 34, h => absurd h (by omega)
theorem e_L_init : y_L_init.cls ≠ "java/lang/invoke/MethodHandle" ∧ y_L_init.cls ≠ "java/lang/invoke/VarHandle" ∧ (parseMethodDescriptor y_L_init.desc).map (fun d => d.parameters.length) = some 0 := by decide +kernel
set_option maxHeartbeats 4000000 in
set_option maxRecDepth 100000 in
theorem m_L_init (l : Launch) (D : va_G) (cI cZ cB cM : ClassId) (b sz : Nat) : Met l y_L_init (Cond.code y_L_init prog_5_method_1_code 1 none :: wsBig) { frames := 1, cells := 2, slots := 80, locals := 20 } (zP D xcl (xty cI cZ cB cM) b (.inr (3, [.null, .null, .int 0])) sz []) (zQ D xcl b (.inr (3, [.null, .null, .int 0])) sz (fun _ => True) (fun u => [(b, .inr (3, [.ref (u 0), .ref (u 1), .int 0])), ((u 0), .inl (cI, 40, .inl (fun _ => 0))), ((u 1), .inl (cI, 40, .inl (fun _ => 0)))])) 2 80 (va_A [(b, .inr (3, [.null, .null, .int 0]))] sz) := by
  refine Z_met (nm := "<init>") (by decide) rfl rfl (Nat.le_of_ble_eq_true rfl) (fun Y s m args Γ => ?_)
  show Z Y s m D xcl _ 1 [(b, .inr (3, [.null, .null, .int 0]))] 0 0 0 [(0, .ref b)] []
  refine Z_aload_n Γ d_L_init_0 rfl 0 rfl rfl ?_
  refine Z_obj Γ d_L_init_1 w132 w17 w18 (by decide) (Nat.le_of_ble_eq_true rfl) rfl ?_
  refine Z_aload_n Γ d_L_init_4 rfl 0 rfl rfl ?_
  refine Z_bipush (v := 40) Γ d_L_init_5 (by decide) rfl ?_
  refine Z_newai (N' := 40) (cA := cI) Γ d_L_init_7 0 rfl w110 (by decide) (by decide) (by decide) (by decide) (by decide) rfl (fun q7_1 => ?_)
  refine Z_eq (w' := [(b, .inr (3, [.null, .null, .int 0])), (q7_1, .inl (cI, 40, .inl (fun _ => 0)))]) rfl ?_
  refine Z_putF (ty := .array .int) Γ d_L_init_9 0 rfl rfl in_L 0 (by decide) w133 rfl ty_L ty_L_ok nm_L rfl rfl rfl (by decide +kernel) rfl rfl (Nat.le_of_ble_eq_true rfl) rfl ?_
  refine Z_eq (w' := [(b, .inr (3, [.ref q7_1, .null, .int 0])), (q7_1, .inl (cI, 40, .inl (fun _ => 0)))]) rfl ?_
  refine Z_aload_n Γ d_L_init_12 rfl 0 rfl rfl ?_
  refine Z_bipush (v := 40) Γ d_L_init_13 (by decide) rfl ?_
  refine Z_newai (N' := 40) (cA := cI) Γ d_L_init_15 0 rfl w110 (by decide) (by decide) (by decide) (by decide) (by decide) rfl (fun q15_1 => ?_)
  refine Z_eq (w' := [(b, .inr (3, [.ref q7_1, .null, .int 0])), (q7_1, .inl (cI, 40, .inl (fun _ => 0))), (q15_1, .inl (cI, 40, .inl (fun _ => 0)))]) rfl ?_
  refine Z_putF (ty := .array .int) Γ d_L_init_17 0 rfl rfl in_L 1 (by decide) w134 rfl ty_L ty_L_ok nm_L rfl rfl rfl (by decide +kernel) rfl rfl (Nat.le_of_ble_eq_true rfl) rfl ?_
  refine Z_eq (w' := [(b, .inr (3, [.ref q7_1, .ref q15_1, .int 0])), (q7_1, .inl (cI, 40, .inl (fun _ => 0))), (q15_1, .inl (cI, 40, .inl (fun _ => 0)))]) rfl ?_
  refine Z_aload_n Γ d_L_init_20 rfl 0 rfl rfl ?_
  refine Z_iconst (v := 0) Γ d_L_init_21 (by decide) rfl ?_
  refine Z_put (ty := .int) Γ d_L_init_22 0 rfl rfl in_L 2 (by decide) w135 rfl ty_L ty_L_ok nm_L rfl (by decide +kernel) rfl rfl (Nat.le_of_ble_eq_true rfl) rfl ?_
  refine Z_eq (w' := [(b, .inr (3, [.ref q7_1, .ref q15_1, .int 0])), (q7_1, .inl (cI, 40, .inl (fun _ => 0))), (q15_1, .inl (cI, 40, .inl (fun _ => 0)))]) rfl ?_
  exact Z_ret Γ d_L_init_25 (fun k9 => [q7_1, q15_1].getD k9 0) trivial rfl (by decide) (by decide)
theorem e_G_init : y_G_init.cls ≠ "java/lang/invoke/MethodHandle" ∧ y_G_init.cls ≠ "java/lang/invoke/VarHandle" ∧ (parseMethodDescriptor y_G_init.desc).map (fun d => d.parameters.length) = some 0 := by decide +kernel
set_option maxHeartbeats 4000000 in
set_option maxRecDepth 100000 in
theorem m_G_init (l : Launch) (D : va_G) (cI cZ cB cM : ClassId) (b sz : Nat) : Met l y_G_init (Cond.code y_G_init prog_6_method_1_code 1 none :: wsBig) { frames := 1, cells := 2, slots := 6, locals := 20 } (zP D xcl (xty cI cZ cB cM) b (.inr (4, [.null, .null, .int 0, .int 0, .int 0, .int 0, .int 0, .int 0, .int 0])) sz []) (zQ D xcl b (.inr (4, [.null, .null, .int 0, .int 0, .int 0, .int 0, .int 0, .int 0, .int 0])) sz (fun _ => True) (fun u => [(b, .inr (4, [.ref (u 0), .ref (u 1), .int 0, .int 0, .int 0, .int 0, .int 0, .int 0, .int 0])), ((u 0), .inl (cI, 3, .inl (fun _ => 0))), ((u 1), .inl (cI, 3, .inl (fun _ => 0)))])) 2 6 (va_A [(b, .inr (4, [.null, .null, .int 0, .int 0, .int 0, .int 0, .int 0, .int 0, .int 0]))] sz) := by
  refine Z_met (nm := "<init>") (by decide) rfl rfl (Nat.le_of_ble_eq_true rfl) (fun Y s m args Γ => ?_)
  show Z Y s m D xcl _ 1 [(b, .inr (4, [.null, .null, .int 0, .int 0, .int 0, .int 0, .int 0, .int 0, .int 0]))] 0 0 0 [(0, .ref b)] []
  refine Z_aload_n Γ d_G_init_0 rfl 0 rfl rfl ?_
  refine Z_obj Γ d_G_init_1 w62 w17 w18 (by decide) (Nat.le_of_ble_eq_true rfl) rfl ?_
  refine Z_aload_n Γ d_G_init_4 rfl 0 rfl rfl ?_
  refine Z_iconst (v := 3) Γ d_G_init_5 (by decide) rfl ?_
  refine Z_newai (N' := 3) (cA := cI) Γ d_G_init_6 0 rfl w110 (by decide) (by decide) (by decide) (by decide) (by decide) rfl (fun q6_1 => ?_)
  refine Z_eq (w' := [(b, .inr (4, [.null, .null, .int 0, .int 0, .int 0, .int 0, .int 0, .int 0, .int 0])), (q6_1, .inl (cI, 3, .inl (fun _ => 0)))]) rfl ?_
  refine Z_putF (ty := .array .int) Γ d_G_init_8 0 rfl rfl in_G 0 (by decide) w63 rfl ty_G ty_G_ok nm_G rfl rfl rfl (by decide +kernel) rfl rfl (Nat.le_of_ble_eq_true rfl) rfl ?_
  refine Z_eq (w' := [(b, .inr (4, [.ref q6_1, .null, .int 0, .int 0, .int 0, .int 0, .int 0, .int 0, .int 0])), (q6_1, .inl (cI, 3, .inl (fun _ => 0)))]) rfl ?_
  refine Z_aload_n Γ d_G_init_11 rfl 0 rfl rfl ?_
  refine Z_iconst (v := 3) Γ d_G_init_12 (by decide) rfl ?_
  refine Z_newai (N' := 3) (cA := cI) Γ d_G_init_13 0 rfl w110 (by decide) (by decide) (by decide) (by decide) (by decide) rfl (fun q13_1 => ?_)
  refine Z_eq (w' := [(b, .inr (4, [.ref q6_1, .null, .int 0, .int 0, .int 0, .int 0, .int 0, .int 0, .int 0])), (q6_1, .inl (cI, 3, .inl (fun _ => 0))), (q13_1, .inl (cI, 3, .inl (fun _ => 0)))]) rfl ?_
  refine Z_putF (ty := .array .int) Γ d_G_init_15 0 rfl rfl in_G 1 (by decide) w64 rfl ty_G ty_G_ok nm_G rfl rfl rfl (by decide +kernel) rfl rfl (Nat.le_of_ble_eq_true rfl) rfl ?_
  refine Z_eq (w' := [(b, .inr (4, [.ref q6_1, .ref q13_1, .int 0, .int 0, .int 0, .int 0, .int 0, .int 0, .int 0])), (q6_1, .inl (cI, 3, .inl (fun _ => 0))), (q13_1, .inl (cI, 3, .inl (fun _ => 0)))]) rfl ?_
  exact Z_ret Γ d_G_init_18 (fun k9 => [q6_1, q13_1].getD k9 0) trivial rfl (by decide) (by decide)
theorem e_T_init : y_T_init.cls ≠ "java/lang/invoke/MethodHandle" ∧ y_T_init.cls ≠ "java/lang/invoke/VarHandle" ∧ (parseMethodDescriptor y_T_init.desc).map (fun d => d.parameters.length) = some 0 := by decide +kernel
set_option maxHeartbeats 4000000 in
set_option maxRecDepth 100000 in
theorem m_T_init (l : Launch) (D : va_G) (cI cZ cB cM : ClassId) (b sz : Nat) : Met l y_T_init (Cond.code y_T_init prog_4_method_1_code 1 none :: wsBig) { frames := 1, cells := 0, slots := 0, locals := 20 } (zP D xcl (xty cI cZ cB cM) b (.inr (2, [.int 0, .int 0, .int 0])) sz []) (zQ D xcl b (.inr (2, [.int 0, .int 0, .int 0])) sz (fun _ => True) (fun u => [(b, .inr (2, [.int 1, .int 0, .int 15]))])) 0 0 (va_A [(b, .inr (2, [.int 0, .int 0, .int 0]))] sz) := by
  refine Z_met (nm := "<init>") (by decide) rfl rfl (Nat.le_of_ble_eq_true rfl) (fun Y s m args Γ => ?_)
  show Z Y s m D xcl _ 1 [(b, .inr (2, [.int 0, .int 0, .int 0]))] 0 0 0 [(0, .ref b)] []
  refine Z_aload_n Γ d_T_init_0 rfl 0 rfl rfl ?_
  refine Z_obj Γ d_T_init_1 w33 w17 w18 (by decide) (Nat.le_of_ble_eq_true rfl) rfl ?_
  refine Z_aload_n Γ d_T_init_4 rfl 0 rfl rfl ?_
  refine Z_iconst (v := 1) Γ d_T_init_5 (by decide) rfl ?_
  refine Z_put (ty := .int) Γ d_T_init_6 0 rfl rfl in_T 0 (by decide) w34 rfl ty_T ty_T_ok nm_T rfl (by decide +kernel) rfl rfl (Nat.le_of_ble_eq_true rfl) rfl ?_
  refine Z_eq (w' := [(b, .inr (2, [.int 1, .int 0, .int 0]))]) rfl ?_
  refine Z_aload_n Γ d_T_init_9 rfl 0 rfl rfl ?_
  refine Z_iconst (v := 0) Γ d_T_init_10 (by decide) rfl ?_
  refine Z_put (ty := .int) Γ d_T_init_11 0 rfl rfl in_T 1 (by decide) w37 rfl ty_T ty_T_ok nm_T rfl (by decide +kernel) rfl rfl (Nat.le_of_ble_eq_true rfl) rfl ?_
  refine Z_eq (w' := [(b, .inr (2, [.int 1, .int 0, .int 0]))]) rfl ?_
  refine Z_aload_n Γ d_T_init_14 rfl 0 rfl rfl ?_
  refine Z_bipush (v := 15) Γ d_T_init_15 (by decide) rfl ?_
  refine Z_put (ty := .int) Γ d_T_init_17 0 rfl rfl in_T 2 (by decide) w40 rfl ty_T ty_T_ok nm_T rfl (by decide +kernel) rfl rfl (Nat.le_of_ble_eq_true rfl) rfl ?_
  refine Z_eq (w' := [(b, .inr (2, [.int 1, .int 0, .int 15]))]) rfl ?_
  exact Z_ret Γ d_T_init_20 (fun k9 => [].getD k9 0) trivial rfl (by decide) (by decide)
