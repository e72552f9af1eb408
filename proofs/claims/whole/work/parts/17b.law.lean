/-! The law: both worlds side by side. -/
def aW (u v : Nat → Nat) (n : Nat) : Nat := if n < 56 then u n else v (n - 56)
def eW (cI cZ cB cM : ClassId) (u v P : Nat → Nat) (G U : Nat → Nat → Int32) (n : Nat) : va_E := if n < 56 then kC cI cB cM u P n (G n) else kM cI cZ v (n - 56) (U (n - 56))
section LAWROWS
variable {cI cZ cB cM : ClassId} {u v P P' : Nat → Nat} {G G' U U' : Nat → Nat → Int32}
theorem aW_C : ∀ k, k < 56 → aW u v (0 + k) = u k := fun k h => by rw [Nat.zero_add]; exact if_pos h
theorem aW_M : ∀ k, k < 27 → aW u v (56 + k) = v k := fun k h => by
  unfold aW
  rw [if_neg (by omega), show 56 + k - 56 = k by omega]
theorem eW_C : ∀ k, k < 56 → eW cI cZ cB cM u v P G U (0 + k) = kg (kC cI cB cM u P) G k := fun k h => by rw [Nat.zero_add]; exact if_pos h
theorem eW_M : ∀ k, k < 27 → eW cI cZ cB cM u v P G U (56 + k) = kg (kM cI cZ v) U k := fun k h => by
  unfold eW
  rw [if_neg (by omega), show 56 + k - 56 = k by omega]
theorem eW_oC : ∀ k, k < 83 → (k < 0 ∨ 0 + 56 ≤ k) → eW cI cZ cB cM u v P' G' U k = eW cI cZ cB cM u v P G U k := fun k _ h => by
  unfold eW
  rw [if_neg (by omega), if_neg (by omega)]
theorem eW_oM : ∀ k, k < 83 → (k < 56 ∨ 56 + 27 ≤ k) → eW cI cZ cB cM u v P G U' k = eW cI cZ cB cM u v P G U k := fun k h1 h => by
  unfold eW
  rw [if_pos (by omega), if_pos (by omega)]
theorem xw_app {N M : Nat} {a c : Nat → Nat} {E F : Nat → va_E} : xw N a E ++ xw M c F = xw (N + M) (fun n => if n < N then a n else c (n - N)) (fun n => if n < N then E n else F (n - N)) := by
  apply List.ext_getElem?
  intro i
  by_cases h : i < N
  · rw [List.getElem?_append_left (by simpa [xw] using h), xw_at h, xw_at (by omega), if_pos h, if_pos h]
  · rw [List.getElem?_append_right (by simpa [xw] using h)]
    have e : (xw N a E).length = N := by simp [xw]
    rw [e]
    by_cases h2 : i < N + M
    · rw [xw_at (by omega), xw_at h2, if_neg h, if_neg h]
    · rw [List.getElem?_eq_none (by simp [xw]; omega), List.getElem?_eq_none (by simp [xw]; omega)]
theorem xw_law : ([] ++ xw 56 u (kg (kC cI cB cM u P) G)) ++ xw 27 v (kg (kM cI cZ v) U) = xw 83 (aW u v) (eW cI cZ cB cM u v P G U) := by
  rw [List.nil_append, xw_app]
  rfl
variable {Y : Nat → Nat → Heap → List Loc → JFrame → Prop} {l : Launch} {R : Room} {s : State} {m : MethodId} {args : Array Value} {cc : ByteArray} {nL : Nat} {own nm : String} {ret0 : Option FieldType} {QQ : List Frame → State → Prop}
variable {D : va_G} {A : Nat → Prop} {cn sn pc pc' : Nat} {L : List (Nat × Value)} {st : List Value}
theorem Z_cC (Γ : ZC Y l R s m args cc nL own nm ret0 QQ D xcl (xty cI cZ cB cM) A) {y : MethodName} {bytes : ByteArray} {maxL n index : Nat} {rt : Option FieldType} {rm : Room} {As rest : List Value} {r : Int32} (hd : decode cc pc = .ok (.invokevirtual index, 3)) (hM : Met l y (Cond.code y bytes maxL rt :: wsBig) rm (xP D xcl (xty cI cZ cB cM) 56 u (kg (kC cI cB cM u P) G) (.ref (u 0) :: As)) (xQi D xcl 56 u r (kg (kC cI cB cM u P') G')) 0 0 (xA 56 u)) (hl : Cond.methodLink own index y ∈ wsBig) (hi : Cond.instanceMethod y ∈ wsBig) (hs : Cond.selects "InSyncLog" y y ∈ wsBig) (hini : Cond.initialized y.cls ∈ wsBig) (hco : Cond.code y bytes maxL rt ∈ wsBig) (hde : y.cls ≠ "java/lang/invoke/MethodHandle" ∧ y.cls ≠ "java/lang/invoke/VarHandle" ∧ (parseMethodDescriptor y.desc).map (fun d => d.parameters.length) = some n) (hR : rm.frames + 1 ≤ R.frames ∧ 8 + (maxL + 11) + rm.locals ≤ R.locals) (hz : rm.cells = 0 ∧ rm.slots = 0) (hn : As.length = n) (hst : As.reverse ++ .ref (u 0) :: rest = st) (hrm : (rest.map fun v => v.category).sum ≤ 8) (hcn : cn ≤ R.cells ∧ sn ≤ R.slots) (hp : pc + 3 = pc') (kk : Z Y s m D xcl A nL (xw 83 (aW u v) (eW cI cZ cB cM u v P' G' U)) cn sn pc' L (.int r :: rest)) : Z Y s m D xcl A nL (xw 83 (aW u v) (eW cI cZ cB cM u v P G U)) cn sn pc L st :=
  Z_callXi (N := 83) (N1 := 56) (off := 0) (b0 := 0) Γ hd hM (by decide) aW_C eW_C eW_C eW_oC (by decide) rfl rfl rfl hl hi hs hini hco hde hR hz hn hst hrm hcn hp kk
theorem Z_cM (Γ : ZC Y l R s m args cc nL own nm ret0 QQ D xcl (xty cI cZ cB cM) A) {y : MethodName} {bytes : ByteArray} {maxL n index : Nat} {rt : Option FieldType} {rm : Room} {As rest : List Value} {r : Int32} (hd : decode cc pc = .ok (.invokevirtual index, 3)) (hM : Met l y (Cond.code y bytes maxL rt :: wsBig) rm (xP D xcl (xty cI cZ cB cM) 27 v (kg (kM cI cZ v) U) (.ref (v 0) :: As)) (xQi D xcl 27 v r (kg (kM cI cZ v) U')) 0 0 (xA 27 v)) (hl : Cond.methodLink own index y ∈ wsBig) (hi : Cond.instanceMethod y ∈ wsBig) (hs : Cond.selects "InSyncLogModel" y y ∈ wsBig) (hini : Cond.initialized y.cls ∈ wsBig) (hco : Cond.code y bytes maxL rt ∈ wsBig) (hde : y.cls ≠ "java/lang/invoke/MethodHandle" ∧ y.cls ≠ "java/lang/invoke/VarHandle" ∧ (parseMethodDescriptor y.desc).map (fun d => d.parameters.length) = some n) (hR : rm.frames + 1 ≤ R.frames ∧ 8 + (maxL + 11) + rm.locals ≤ R.locals) (hz : rm.cells = 0 ∧ rm.slots = 0) (hn : As.length = n) (hst : As.reverse ++ .ref (v 0) :: rest = st) (hrm : (rest.map fun v => v.category).sum ≤ 8) (hcn : cn ≤ R.cells ∧ sn ≤ R.slots) (hp : pc + 3 = pc') (kk : Z Y s m D xcl A nL (xw 83 (aW u v) (eW cI cZ cB cM u v P G U')) cn sn pc' L (.int r :: rest)) : Z Y s m D xcl A nL (xw 83 (aW u v) (eW cI cZ cB cM u v P G U)) cn sn pc L st :=
  Z_callXi (N := 83) (N1 := 27) (off := 56) (b0 := 0) Γ hd hM (by decide) aW_M eW_M eW_M eW_oM (by decide) rfl rfl rfl hl hi hs hini hco hde hR hz hn hst hrm hcn hp kk
end LAWROWS
theorem lawK {s : State} {args : Array Value} (hts : ∀ w ∈ wsBig, w.before args s = true) (hO : xO s) : ∃ (D : va_G) (cI cZ cB cM : ClassId), va_K D xcl (xty cI cZ cB cM) s := by
  obtain ⟨c0, s0, h0⟩ := u_known hts in_B (hts _ w122)
  obtain ⟨c1, s1, h1⟩ := u_known hts in_H (hts _ w51)
  obtain ⟨c2, s2, h2⟩ := u_known hts in_T (hts _ w29)
  obtain ⟨c3, s3, h3⟩ := u_known hts in_L (hts _ w128)
  obtain ⟨c4, s4, h4⟩ := u_known hts in_G (hts _ w58)
  obtain ⟨c5, s5, h5⟩ := u_known hts in_I (hts _ w12)
  obtain ⟨c6, s6, h6⟩ := u_known hts in_M (hts _ w471)
  obtain ⟨cI, kI, mI, i1, i2, i3⟩ := Cond.arrayClass_spec (hts _ w110)
  obtain ⟨cZ, kZ, mZ, z1, z2, z3⟩ := Cond.arrayClass_spec (hts _ w583)
  obtain ⟨mB, cB, kB, b1, _, b2, b3, b4⟩ := Cond.arrayOver_spec hO.1
  obtain ⟨mM, cM, kM9, m1, _, m2, m3, m4⟩ := Cond.arrayOver_spec hO.2
  refine ⟨(fun n => match n with | 0 => c0 | 1 => c1 | 2 => c2 | 3 => c3 | 4 => c4 | 5 => c5 | _ => c6, fun n => match n with | 0 => s0 | 1 => s1 | 2 => s2 | 3 => s3 | 4 => s4 | 5 => s5 | _ => s6), cI, cZ, cB, cM, fun c q hq => ?_, fun k q hk => ?_⟩
  · match c, hq with
    | 0, hq => cases hq; exact h0
    | 1, hq => cases hq; exact h1
    | 2, hq => cases hq; exact h2
    | 3, hq => cases hq; exact h3
    | 4, hq => cases hq; exact h4
    | 5, hq => cases hq; exact h5
    | 6, hq => cases hq; exact h6
    | n + 7, hq => exact absurd hq (by simp [xcl])
  · match k, hk with
    | 0, hk => cases hk; exact ⟨fun n z => ⟨(fun k h => by cases h), kI, i2, mI, i3⟩, i1⟩
    | 1, hk => cases hk; exact ⟨fun n z => ⟨(fun k h => by cases h), kZ, z2, mZ, z3⟩, z1⟩
    | 2, hk => cases hk; exact ⟨fun n z => ⟨(fun k h => by cases h), kB, b2, mB, b3⟩, kB, mB, b2, b3, b1, b4⟩
    | 3, hk => cases hk; exact ⟨fun n z => ⟨(fun k h => by cases h), kM9, m2, mM, m3⟩, kM9, mM, m2, m3, m1, m4⟩
    | n + 4, hk => exact absurd hk (by simp [xty])
theorem ce_in {L0 : Nat} {k : Int32} (hL : L0 ≤ 1539) (hk : 0 ≤ k.toInt) (h : ¬ Int32.ofNat L0 ≤ k) : vp_in k L0 := by
  rw [vp_in_iff]
  have h1 : ¬ nI L0 ≤ k := h
  rw [i_le, nI_toInt (by omega)] at h1
  omega
/-- the script read with zeros behind its end -/
def cellN (L0 : Nat) (xs : Nat → Int32) (k : Int32) : Int32 := if Int32.ofNat L0 ≤ k then 0 else xs k.toNatClampNeg
theorem e_W_cell : y_W_cell.cls ≠ "java/lang/invoke/MethodHandle" ∧ y_W_cell.cls ≠ "java/lang/invoke/VarHandle" ∧ (parseMethodDescriptor y_W_cell.desc).map (fun d => d.parameters.length) = some 2 := by decide +kernel
theorem m_W_cell (l : Launch) (D : va_G) (cI cZ cB cM : ClassId) (b L0 : Nat) (xs : Nat → Int32) (hL : L0 ≤ 1539) (k : Int32) (hk : 0 ≤ k.toInt) (sz : Nat) : Met l y_W_cell (Cond.code y_W_cell method_2_code 2 (some .int) :: wsBig) { frames := 0, cells := 0, slots := 0, locals := 0 } (zsP D xcl (xty cI cZ cB cM) b L0 xs sz [.ref b, .int k]) (zsQ (cellN L0 xs k) sz) 0 0 (fun q => sz ≤ q) := by
  refine Z_met_s (nm := "cell") (by decide) rfl rfl (Nat.le_of_ble_eq_true rfl) (fun Y s m args Γ hX hb0 hbA => ?_)
  show Z Y s m D xcl _ 2 [] 0 0 0 [(0, .ref b), (1, .int k)] []
  -- [(0, 'iload_n', [1]), (1, 'aload_n', [0]), (2, 'arraylength', []), (3, 'if_icmp', ['ge', 9]), (6, 'aload_n', [0]), (7, 'iload_n', [1]), (8, 'iaload', []), (9, 'goto', [4]), (12, 'iconst', [0]), (13, 'ireturn', [])]
  refine Z_iload_n Γ d_W_cell_0 rfl 1 rfl rfl ?_
  refine Z_aload_n Γ d_W_cell_1 rfl 0 rfl rfl ?_
  refine Z_slen Γ d_W_cell_2 hX hb0 hbA rfl ?_
  refine Z_icmp_ge (tgt := 12) Γ d_W_cell_3 (by decide) rfl (fun h => ?_) (fun h => ?_)
  ·
    refine Z_iconst (v := 0) Γ d_W_cell_12 (by decide) rfl ?_
    exact Z_sret Γ rfl d_W_cell_13 (by unfold cellN; first | rw [if_pos h] | rw [if_neg h])
  ·
    refine Z_aload_n Γ d_W_cell_6 rfl 0 rfl rfl ?_
    refine Z_iload_n Γ d_W_cell_7 rfl 1 rfl rfl ?_
    refine Z_sld Γ d_W_cell_8 hX hb0 hbA (ce_in hL hk h) rfl rfl ?_
    refine Z_goto (pc' := 13) Γ d_W_cell_9 (by decide) ?_
    exact Z_sret Γ rfl d_W_cell_13 (by unfold cellN; first | rw [if_pos h] | rw [if_neg h])
theorem sc_lt {L0 k : Nat} (hL : L0 ≤ 1539) (h : ¬ Int32.ofNat L0 - 3 < nI (3 + 3 * k)) (hk : k ≤ 512) : 3 + 3 * k + 3 ≤ L0 := by
  have h1 : ¬ nI L0 - nI 3 < nI (3 + 3 * k) := h
  rw [i_lt, pk_sub_toInt (by omega) (by omega), nI_toInt (by omega)] at h1
  omega
theorem sc0 {L0 k : Nat} (hL : L0 ≤ 1539) (h : 3 + 3 * k + 3 ≤ L0) : vp_in (nI (3 + 3 * k)) L0 := vp_in_nI (by omega) (by omega)
theorem sc1 {L0 k : Nat} (hL : L0 ≤ 1539) (h : 3 + 3 * k + 3 ≤ L0) : vp_in (nI (3 + 3 * k) + 1) L0 := by rw [nI_1]; exact vp_in_nI (by omega) (by omega)
theorem sc2 {L0 k : Nat} (hL : L0 ≤ 1539) (h : 3 + 3 * k + 3 ≤ L0) : vp_in (nI (3 + 3 * k) + 2) L0 := by
  rw [show (2 : Int32) = nI 2 by decide, nI_add]
  exact vp_in_nI (by omega) (by omega)
theorem sv0 {L0 k : Nat} {xs : Nat → Int32} (hL : L0 ≤ 1539) (h : 3 + 3 * k + 3 ≤ L0) : xs (nI (3 + 3 * k)).toNatClampNeg = xs (3 + 3 * k) := by rw [nI_clamp (by omega)]
theorem sv1 {L0 k : Nat} {xs : Nat → Int32} (hL : L0 ≤ 1539) (h : 3 + 3 * k + 3 ≤ L0) : xs (nI (3 + 3 * k) + 1).toNatClampNeg = xs (3 + 3 * k + 1) := by rw [nI_1, nI_clamp (by omega)]
theorem sv2 {L0 k : Nat} {xs : Nat → Int32} (hL : L0 ≤ 1539) (h : 3 + 3 * k + 3 ≤ L0) : xs (nI (3 + 3 * k) + 2).toNatClampNeg = xs (3 + 3 * k + 2) := by rw [show (2 : Int32) = nI 2 by decide, nI_add, nI_clamp (by omega)]
theorem si3 {k : Nat} : nI (3 + 3 * k) + Int32.ofInt 3 = nI (3 + 3 * (k + 1)) := by
  rw [show Int32.ofInt 3 = nI 3 by decide, nI_add]
  rfl
theorem tb_0_18 {x : Int32} (h0 : ¬ x = 0) (h1 : ¬ x = 1) (h2 : ¬ x = 2) (h3 : ¬ x = 3) (h4 : ¬ x = 4) (h5 : ¬ x = 5) (h6 : ¬ x = 6) (h7 : ¬ x = 7) (h8 : ¬ x = 8) (h9 : ¬ x = 9) (h10 : ¬ x = 10) (h11 : ¬ x = 11) (h12 : ¬ x = 12) (h13 : ¬ x = 13) (h14 : ¬ x = 14) (h15 : ¬ x = 15) (h16 : ¬ x = 16) (h17 : ¬ x = 17) (h18 : ¬ x = 18) : x.toInt < 0 ∨ 18 < x.toInt := by
  have a0 := lv_neT h0 (a := 0) (by decide)
  have a1 := lv_neT h1 (a := 1) (by decide)
  have a2 := lv_neT h2 (a := 2) (by decide)
  have a3 := lv_neT h3 (a := 3) (by decide)
  have a4 := lv_neT h4 (a := 4) (by decide)
  have a5 := lv_neT h5 (a := 5) (by decide)
  have a6 := lv_neT h6 (a := 6) (by decide)
  have a7 := lv_neT h7 (a := 7) (by decide)
  have a8 := lv_neT h8 (a := 8) (by decide)
  have a9 := lv_neT h9 (a := 9) (by decide)
  have a10 := lv_neT h10 (a := 10) (by decide)
  have a11 := lv_neT h11 (a := 11) (by decide)
  have a12 := lv_neT h12 (a := 12) (by decide)
  have a13 := lv_neT h13 (a := 13) (by decide)
  have a14 := lv_neT h14 (a := 14) (by decide)
  have a15 := lv_neT h15 (a := 15) (by decide)
  have a16 := lv_neT h16 (a := 16) (by decide)
  have a17 := lv_neT h17 (a := 17) (by decide)
  have a18 := lv_neT h18 (a := 18) (by decide)
  omega
