def f_M_answer (x1 : Int32) (x2 : Int32) (x3 : Int32) (x4 : Int32) (G : Nat → Nat → Int32) : (Nat → Nat → Int32) := (jn (fun (t0_25 : Int32) => (if (G 3 t0_25.toNatClampNeg) = x3 then (if (G 4 t0_25.toNatClampNeg) = x4 then (jn (fun (t0_130 : Int32) => (jn (fun (t0_162 : Int32) => (jn (fun (Gv168 : Nat → Nat → Int32) => (jn (fun (t0_208 : Int32) => (if ((f_M_send 2 x1 x2 (Gv168 10 x1.toNatClampNeg) (Gv168 26 4) (t0_208 - x3) (Gv168 8 x1.toNatClampNeg) Gv168).1) = 0 then ((f_M_send 2 x1 x2 (Gv168 10 x1.toNatClampNeg) (Gv168 26 4) (t0_208 - x3) (Gv168 8 x1.toNatClampNeg) Gv168).2) else (g2 ((f_M_send 2 x1 x2 (Gv168 10 x1.toNatClampNeg) (Gv168 26 4) (t0_208 - x3) (Gv168 8 x1.toNatClampNeg) Gv168).2) 25 ((((f_M_send 2 x1 x2 (Gv168 10 x1.toNatClampNeg) (Gv168 26 4) (t0_208 - x3) (Gv168 8 x1.toNatClampNeg) Gv168).2) 0 24) - 1).toNatClampNeg ((f_M_upTo x1 t0_208 ((f_M_send 2 x1 x2 (Gv168 10 x1.toNatClampNeg) (Gv168 26 4) (t0_208 - x3) (Gv168 8 x1.toNatClampNeg) Gv168).2)))))) (fun (j208 : Int32 → (Nat → Nat → Int32)) => (if (Gv168 3 (Gv168 7 x1.toNatClampNeg).toNatClampNeg) ≤ (x3 + (Gv168 0 1)) then (j208 (Gv168 3 (Gv168 7 x1.toNatClampNeg).toNatClampNeg)) else (j208 (x3 + (Gv168 0 1))))))) (fun (j168 : (Nat → Nat → Int32) → (Nat → Nat → Int32)) => (j168 ((f_M_rise x1 (g2 (g2 G 15 ((4 * x1) + x2).toNatClampNeg t0_130) 16 ((4 * x1) + x2).toNatClampNeg t0_162))))))) (fun (j162 : Int32 → (Nat → Nat → Int32)) => (if t0_25 = (G 7 x1.toNatClampNeg) then (j162 (G 0 3)) else (j162 (G 16 ((4 * x1) + x2).toNatClampNeg)))))) (fun (j130 : Int32 → (Nat → Nat → Int32)) => (if x3 ≤ (G 15 ((4 * x1) + x2).toNatClampNeg) then (j130 (G 15 ((4 * x1) + x2).toNatClampNeg)) else (j130 x3)))) else ((f_M_send 1 x1 x2 (G 10 x1.toNatClampNeg) (G 26 4) (G 3 ((f_M_underEpoch x1 x4 G)).toNatClampNeg) (G 4 ((f_M_underEpoch x1 x4 G)).toNatClampNeg) G).2)) else ((f_M_send 1 x1 x2 (G 10 x1.toNatClampNeg) (G 26 4) (G 3 ((f_M_underEpoch x1 x4 G)).toNatClampNeg) (G 4 ((f_M_underEpoch x1 x4 G)).toNatClampNeg) G).2))) (fun (j25 : Int32 → (Nat → Nat → Int32)) => (if x3 ≤ (G 3 (G 7 x1.toNatClampNeg).toNatClampNeg) then (j25 ((f_M_upTo x1 x3 G))) else (j25 0))))
theorem e_M_answer : y_M_answer.cls ≠ "java/lang/invoke/MethodHandle" ∧ y_M_answer.cls ≠ "java/lang/invoke/VarHandle" ∧ (parseMethodDescriptor y_M_answer.desc).map (fun d => d.parameters.length) = some 4 := by decide +kernel
set_option maxHeartbeats 4000000 in
set_option maxRecDepth 100000 in
theorem m_M_answer (l : Launch) (D : va_G) (cI cZ cB cM : ClassId) (a : Nat → Nat) (hJ : xJ 27 a) (G : Nat → Nat → Int32) (x1 : Int32) (x2 : Int32) (x3 : Int32) (x4 : Int32) (hb : vp_in x1 4) (hT : okT G) (hc : okK G) (hf : vp_in x2 4) (hn : 0 ≤ x3.toInt ∧ x3.toInt ≤ 100) (hB : 1 ≤ (G 0 1).toInt ∧ (G 0 1).toInt ≤ 3) (hD : ∀ x : Nat, x < 520 → 0 ≤ (G 3 x).toInt) : Met l y_M_answer (Cond.code y_M_answer prog_8_method_26_code 8 (Option.none : Option FieldType) :: wsBig) { frames := 1, cells := 0, slots := 0, locals := 27 } (xP D xcl (xty cI cZ cB cM) 27 a (kg (kM cI cZ a) G) [.ref (a 0), .int x1, .int x2, .int x3, .int x4]) (xQv D xcl 27 a (kg (kM cI cZ a) (f_M_answer x1 x2 x3 x4 G))) 0 0 (xA 27 a) := by
  refine X_met (by decide) rfl (Nat.le_of_ble_eq_true rfl) hJ (fun Y s m args Γ => ?_)
  show X Y s m D xcl 27 a 8 (kg (kM cI cZ a) G) 0 [(0, .ref (a 0)), (1, .int x1), (2, .int x2), (3, .int x3), (4, .int x4)] []
  have E := f_M_answer.eq_1 x1 x2 x3 x4 G
  refine X_iload_n Γ d_M_answer_0 rfl 3 rfl rfl ?_
  refine X_aload_n Γ d_M_answer_1 rfl 0 rfl rfl ?_
  refine X_get Γ d_M_answer_2 (by decide) rfl rfl in_M 9 (by decide) w489 rfl rfl rfl ?_
  refine X_aload_n Γ d_M_answer_5 rfl 0 rfl rfl ?_
  refine X_get Γ d_M_answer_6 (by decide) rfl rfl in_M 13 (by decide) w493 rfl rfl rfl ?_
  refine X_iload_n Γ d_M_answer_9 rfl 1 rfl rfl ?_
  refine X_iald (v := (G 7 x1.toNatClampNeg)) Γ d_M_answer_10 (by decide) rfl 0 rfl hb rfl rfl ?_
  refine X_iald (v := (G 3 (G 7 x1.toNatClampNeg).toNatClampNeg)) Γ d_M_answer_11 (by decide) rfl 0 rfl (hT.1 _ (vp_lt hb)) rfl rfl ?_
  refine jn_open E (fun j25 ej25 E => ?_)
  have J25 : ∀ (t0_25 : Int32), (vp_in t0_25 520) → f_M_answer x1 x2 x3 x4 G = j25 t0_25 → X Y s m D xcl 27 a 8 (kg (kM cI cZ a) G) 25 [(0, .ref (a 0)), (1, .int x1), (2, .int x2), (3, .int x3), (4, .int x4)] [.int t0_25] := by
    intro t0_25 hI25 E
    rw [ej25] at E
    refine X_istore Γ d_M_answer_25 (by decide) rfl rfl ?_
    refine X_aload_n Γ d_M_answer_27 rfl 1 rfl rfl ?_
    refine X_get Γ d_M_answer_28 (by decide) rfl rfl in_M 9 (by decide) w489 rfl rfl rfl ?_
    refine X_iload Γ d_M_answer_31 0 rfl rfl ?_
    refine X_iald (v := (G 3 t0_25.toNatClampNeg)) Γ d_M_answer_33 (by decide) rfl 0 rfl hI25 rfl rfl ?_
    refine X_iload_n Γ d_M_answer_34 rfl 4 rfl rfl ?_
    refine X_icmp_ne (tgt := 50) Γ d_M_answer_35 (by decide) rfl (fun h35 => ?_) (fun h35 => ?_)
    · replace E := E.trans (if_neg h35)
      refine X_aload_n Γ d_M_answer_50 rfl 1 rfl rfl ?_
      refine X_iload_n Γ d_M_answer_51 rfl 2 rfl rfl ?_
      refine X_iload Γ d_M_answer_52 5 rfl rfl ?_
      refine X_callVi (rest := []) Γ d_M_answer_54 (m_M_underEpoch l D cI cZ cB cM a hJ G x1 x4 hb hT) (by decide) rfl rfl rfl w676 w678 s_M_underEpoch w9 w679 e_M_underEpoch ⟨by decide, by decide⟩ ⟨rfl, rfl⟩ rfl rfl (Nat.le_of_ble_eq_true rfl) rfl ?_
      refine X_istore Γ d_M_answer_57 (by decide) rfl rfl ?_
      refine X_aload_n Γ d_M_answer_59 rfl 1 rfl rfl ?_
      refine X_iconst (v := 1) Γ d_M_answer_60 (by decide) rfl ?_
      refine X_iload_n Γ d_M_answer_61 rfl 2 rfl rfl ?_
      refine X_iload_n Γ d_M_answer_62 rfl 3 rfl rfl ?_
      refine X_aload_n Γ d_M_answer_63 rfl 1 rfl rfl ?_
      refine X_get Γ d_M_answer_64 (by decide) rfl rfl in_M 16 (by decide) w496 rfl rfl rfl ?_
      refine X_iload_n Γ d_M_answer_67 rfl 2 rfl rfl ?_
      refine X_iald (v := (G 10 x1.toNatClampNeg)) Γ d_M_answer_68 (by decide) rfl 0 rfl hb rfl rfl ?_
      refine X_aload_n Γ d_M_answer_69 rfl 1 rfl rfl ?_
      refine X_get Γ d_M_answer_70 (by decide) rfl rfl in_M 33 (by decide) w513 rfl rfl rfl ?_
      refine X_iconst (v := 4) Γ d_M_answer_73 (by decide) rfl ?_
      refine X_iald (v := (G 26 4)) Γ d_M_answer_74 (by decide) rfl 0 rfl in4_8 rfl rfl ?_
      refine X_aload_n Γ d_M_answer_75 rfl 1 rfl rfl ?_
      refine X_get Γ d_M_answer_76 (by decide) rfl rfl in_M 9 (by decide) w489 rfl rfl rfl ?_
      refine X_iload Γ d_M_answer_79 0 rfl rfl ?_
      refine X_iald (v := (G 3 ((f_M_underEpoch x1 x4 G)).toNatClampNeg)) Γ d_M_answer_81 (by decide) rfl 0 rfl (ue_in hb hT) rfl rfl ?_
      refine X_aload_n Γ d_M_answer_82 rfl 1 rfl rfl ?_
      refine X_get Γ d_M_answer_83 (by decide) rfl rfl in_M 10 (by decide) w490 rfl rfl rfl ?_
      refine X_iload Γ d_M_answer_86 0 rfl rfl ?_
      refine X_iald (v := (G 4 ((f_M_underEpoch x1 x4 G)).toNatClampNeg)) Γ d_M_answer_88 (by decide) rfl 0 rfl (ue_in hb hT) rfl rfl ?_
      refine X_callVi (rest := []) Γ d_M_answer_89 (m_M_send l D cI cZ cB cM a hJ G 1 x1 x2 (G 10 x1.toNatClampNeg) (G 26 4) (G 3 ((f_M_underEpoch x1 x4 G)).toNatClampNeg) (G 4 ((f_M_underEpoch x1 x4 G)).toNatClampNeg) hc) (by decide) rfl rfl rfl w639 w641 s_M_send w9 w642 e_M_send ⟨by decide, by decide⟩ ⟨rfl, rfl⟩ rfl rfl (Nat.le_of_ble_eq_true rfl) rfl ?_
      refine X_istore Γ d_M_answer_92 (by decide) rfl rfl ?_
      exact X_vret Γ d_M_answer_94 (gv_eq E)
    · replace E := E.trans (if_pos h35)
      refine X_aload_n Γ d_M_answer_38 rfl 1 rfl rfl ?_
      refine X_get Γ d_M_answer_39 (by decide) rfl rfl in_M 10 (by decide) w490 rfl rfl rfl ?_
      refine X_iload Γ d_M_answer_42 0 rfl rfl ?_
      refine X_iald (v := (G 4 t0_25.toNatClampNeg)) Γ d_M_answer_44 (by decide) rfl 0 rfl hI25 rfl rfl ?_
      refine X_iload Γ d_M_answer_45 5 rfl rfl ?_
      refine X_icmp_eq (tgt := 95) Γ d_M_answer_47 (by decide) rfl (fun h47 => ?_) (fun h47 => ?_)
      · replace E := E.trans (if_pos h47)
        refine X_iconst (v := 4) Γ d_M_answer_95 (by decide) rfl ?_
        refine X_iload_n Γ d_M_answer_96 rfl 2 rfl rfl ?_
        refine X_imul Γ d_M_answer_97 rfl ?_
        refine X_iload_n Γ d_M_answer_98 rfl 3 rfl rfl ?_
        refine X_iadd Γ d_M_answer_99 rfl ?_
        refine X_istore Γ d_M_answer_100 (by decide) rfl rfl ?_
        refine X_aload_n Γ d_M_answer_102 rfl 2 rfl rfl ?_
        refine X_get Γ d_M_answer_103 (by decide) rfl rfl in_M 21 (by decide) w501 rfl rfl rfl ?_
        refine X_iload Γ d_M_answer_106 0 rfl rfl ?_
        refine X_iload_n Γ d_M_answer_108 rfl 5 rfl rfl ?_
        refine X_aload_n Γ d_M_answer_109 rfl 2 rfl rfl ?_
        refine X_get Γ d_M_answer_110 (by decide) rfl rfl in_M 21 (by decide) w501 rfl rfl rfl ?_
        refine X_iload Γ d_M_answer_113 0 rfl rfl ?_
        refine X_iald (v := (G 15 ((4 * x1) + x2).toNatClampNeg)) Γ d_M_answer_115 (by decide) rfl 0 rfl (at16 hb hf) rfl rfl ?_
        refine jn_open E (fun j130 ej130 E => ?_)
        have J130 : ∀ (t0_130 : Int32), (True) → f_M_answer x1 x2 x3 x4 G = j130 t0_130 → X Y s m D xcl 27 a 8 (kg (kM cI cZ a) G) 130 [(0, .ref (a 0)), (1, .int x1), (2, .int x2), (3, .int x3), (4, .int x4), (5, .int t0_25), (6, .int ((4 * x1) + x2))] [.int t0_130, .int ((4 * x1) + x2), .ref (a 15)] := by
          intro t0_130 hI130 E
          rw [ej130] at E
          refine X_iast (kx := ((4 * x1) + x2).toNatClampNeg) Γ d_M_answer_130 (by decide) rfl 0 rfl (at16 hb hf) (fun _ => rfl) rfl rfl ?_
          refine X_aload_n Γ d_M_answer_131 rfl 0 rfl rfl ?_
          refine X_get Γ d_M_answer_132 (by decide) rfl rfl in_M 22 (by decide) w502 rfl rfl rfl ?_
          refine X_iload Γ d_M_answer_135 6 rfl rfl ?_
          refine X_iload Γ d_M_answer_137 5 rfl rfl ?_
          refine X_aload_n Γ d_M_answer_139 rfl 0 rfl rfl ?_
          refine X_get Γ d_M_answer_140 (by decide) rfl rfl in_M 13 (by decide) w493 rfl rfl rfl ?_
          refine X_iload_n Γ d_M_answer_143 rfl 1 rfl rfl ?_
          refine X_iald (v := (G 7 x1.toNatClampNeg)) Γ d_M_answer_144 (by decide) rfl 0 rfl hb rfl rfl ?_
          refine jn_open E (fun j162 ej162 E => ?_)
          have J162 : ∀ (t0_162 : Int32), (True) → f_M_answer x1 x2 x3 x4 G = j162 t0_162 → X Y s m D xcl 27 a 8 (kg (kM cI cZ a) (g2 G 15 ((4 * x1) + x2).toNatClampNeg t0_130)) 162 [(0, .ref (a 0)), (1, .int x1), (2, .int x2), (3, .int x3), (4, .int x4), (5, .int t0_25), (6, .int ((4 * x1) + x2))] [.int t0_162, .int ((4 * x1) + x2), .ref (a 16)] := by
            intro t0_162 hI162 E
            rw [ej162] at E
            refine X_iast (kx := ((4 * x1) + x2).toNatClampNeg) Γ d_M_answer_162 (by decide) rfl 0 rfl (at16 hb hf) (fun _ => rfl) rfl rfl ?_
            refine X_aload_n Γ d_M_answer_163 rfl 0 rfl rfl ?_
            refine X_iload_n Γ d_M_answer_164 rfl 1 rfl rfl ?_
            refine X_callVv (rest := []) Γ d_M_answer_165 (m_M_rise l D cI cZ cB cM a hJ (g2 (g2 G 15 ((4 * x1) + x2).toNatClampNeg t0_130) 16 ((4 * x1) + x2).toNatClampNeg t0_162) x1 hb (okT_of3 hT ⟨rfl, rfl, rfl⟩)) (by decide) rfl rfl rfl w603 w605 s_M_rise w9 w606 e_M_rise ⟨by decide, by decide⟩ ⟨rfl, rfl⟩ rfl rfl (Nat.le_of_ble_eq_true rfl) rfl ?_
            refine jn_open E (fun j168 ej168 E => ?_)
            have J168 : ∀ (Gv168 : Nat → Nat → Int32), (okT Gv168 ∧ okK Gv168 ∧ (1 ≤ (Gv168 0 1).toInt ∧ (Gv168 0 1).toInt ≤ 3) ∧ ∀ x : Nat, x < 520 → 0 ≤ (Gv168 3 x).toInt) → f_M_answer x1 x2 x3 x4 G = j168 Gv168 → X Y s m D xcl 27 a 8 (kg (kM cI cZ a) Gv168) 168 [(0, .ref (a 0)), (1, .int x1), (2, .int x2), (3, .int x3), (4, .int x4), (5, .int t0_25), (6, .int ((4 * x1) + x2))] [] := by
              intro Gv168 hI168 E
              rw [ej168] at E
              refine X_iload_n Γ d_M_answer_168 rfl 3 rfl rfl ?_
              refine X_aload_n Γ d_M_answer_169 rfl 0 rfl rfl ?_
              refine X_get Γ d_M_answer_170 (by decide) rfl rfl in_M 1 (by decide) w481 rfl rfl rfl ?_
              refine X_iadd Γ d_M_answer_173 rfl ?_
              refine X_aload_n Γ d_M_answer_174 rfl 0 rfl rfl ?_
              refine X_get Γ d_M_answer_175 (by decide) rfl rfl in_M 9 (by decide) w489 rfl rfl rfl ?_
              refine X_aload_n Γ d_M_answer_178 rfl 0 rfl rfl ?_
              refine X_get Γ d_M_answer_179 (by decide) rfl rfl in_M 13 (by decide) w493 rfl rfl rfl ?_
              refine X_iload_n Γ d_M_answer_182 rfl 1 rfl rfl ?_
              refine X_iald (v := (Gv168 7 x1.toNatClampNeg)) Γ d_M_answer_183 (by decide) rfl 0 rfl hb rfl rfl ?_
              refine X_iald (v := (Gv168 3 (Gv168 7 x1.toNatClampNeg).toNatClampNeg)) Γ d_M_answer_184 (by decide) rfl 0 rfl (hI168.1.1 _ (vp_lt hb)) rfl rfl ?_
              refine jn_open E (fun j208 ej208 E => ?_)
              have J208 : ∀ (t0_208 : Int32), (0 ≤ t0_208.toInt) → f_M_answer x1 x2 x3 x4 G = j208 t0_208 → X Y s m D xcl 27 a 8 (kg (kM cI cZ a) Gv168) 208 [(0, .ref (a 0)), (1, .int x1), (2, .int x2), (3, .int x3), (4, .int x4), (5, .int t0_25), (6, .int ((4 * x1) + x2))] [.int t0_208] := by
                intro t0_208 hI208 E
                rw [ej208] at E
                refine X_istore Γ d_M_answer_208 (by decide) rfl rfl ?_
                refine X_aload_n Γ d_M_answer_210 rfl 1 rfl rfl ?_
                refine X_iconst (v := 2) Γ d_M_answer_211 (by decide) rfl ?_
                refine X_iload_n Γ d_M_answer_212 rfl 2 rfl rfl ?_
                refine X_iload_n Γ d_M_answer_213 rfl 3 rfl rfl ?_
                refine X_aload_n Γ d_M_answer_214 rfl 1 rfl rfl ?_
                refine X_get Γ d_M_answer_215 (by decide) rfl rfl in_M 16 (by decide) w496 rfl rfl rfl ?_
                refine X_iload_n Γ d_M_answer_218 rfl 2 rfl rfl ?_
                refine X_iald (v := (Gv168 10 x1.toNatClampNeg)) Γ d_M_answer_219 (by decide) rfl 0 rfl hb rfl rfl ?_
                refine X_aload_n Γ d_M_answer_220 rfl 1 rfl rfl ?_
                refine X_get Γ d_M_answer_221 (by decide) rfl rfl in_M 33 (by decide) w513 rfl rfl rfl ?_
                refine X_iconst (v := 4) Γ d_M_answer_224 (by decide) rfl ?_
                refine X_iald (v := (Gv168 26 4)) Γ d_M_answer_225 (by decide) rfl 0 rfl in4_8 rfl rfl ?_
                refine X_iload Γ d_M_answer_226 0 rfl rfl ?_
                refine X_iload_n Γ d_M_answer_228 rfl 4 rfl rfl ?_
                refine X_isub Γ d_M_answer_229 rfl ?_
                refine X_aload_n Γ d_M_answer_230 rfl 1 rfl rfl ?_
                refine X_get Γ d_M_answer_231 (by decide) rfl rfl in_M 14 (by decide) w494 rfl rfl rfl ?_
                refine X_iload_n Γ d_M_answer_234 rfl 2 rfl rfl ?_
                refine X_iald (v := (Gv168 8 x1.toNatClampNeg)) Γ d_M_answer_235 (by decide) rfl 0 rfl hb rfl rfl ?_
                refine X_callVi (rest := []) Γ d_M_answer_236 (m_M_send l D cI cZ cB cM a hJ Gv168 2 x1 x2 (Gv168 10 x1.toNatClampNeg) (Gv168 26 4) (t0_208 - x3) (Gv168 8 x1.toNatClampNeg) hI168.2.1) (by decide) rfl rfl rfl w639 w641 s_M_send w9 w642 e_M_send ⟨by decide, by decide⟩ ⟨rfl, rfl⟩ rfl rfl (Nat.le_of_ble_eq_true rfl) rfl ?_
                refine X_if_eq (tgt := 260) Γ d_M_answer_239 (by decide) rfl (fun h239 => ?_) (fun h239 => ?_)
                · replace E := E.trans (if_pos h239)
                  exact X_vret Γ d_M_answer_260 (gv_eq E)
                · replace E := E.trans (if_neg h239)
                  refine X_aload_n Γ d_M_answer_242 rfl 1 rfl rfl ?_
                  refine X_get Γ d_M_answer_243 (by decide) rfl rfl in_M 32 (by decide) w512 rfl rfl rfl ?_
                  refine X_aload_n Γ d_M_answer_246 rfl 1 rfl rfl ?_
                  refine X_get Γ d_M_answer_247 (by decide) rfl rfl in_M 24 (by decide) w504 rfl rfl rfl ?_
                  refine X_iconst (v := 1) Γ d_M_answer_250 (by decide) rfl ?_
                  refine X_isub Γ d_M_answer_251 rfl ?_
                  refine X_aload_n Γ d_M_answer_252 rfl 1 rfl rfl ?_
                  refine X_iload_n Γ d_M_answer_253 rfl 2 rfl rfl ?_
                  refine X_iload Γ d_M_answer_254 0 rfl rfl ?_
                  refine X_callVi (rest := [.int ((((f_M_send 2 x1 x2 (Gv168 10 x1.toNatClampNeg) (Gv168 26 4) (t0_208 - x3) (Gv168 8 x1.toNatClampNeg) Gv168).2) 0 24) - 1), .ref (a 25)]) Γ d_M_answer_256 (m_M_upTo l D cI cZ cB cM a hJ ((f_M_send 2 x1 x2 (Gv168 10 x1.toNatClampNeg) (Gv168 26 4) (t0_208 - x3) (Gv168 8 x1.toNatClampNeg) Gv168).2) x1 t0_208 hb (okT_of3 hI168.1 send_same3) hI208) (by decide) rfl rfl rfl w619 w621 s_M_upTo w9 w622 e_M_upTo ⟨by decide, by decide⟩ ⟨rfl, rfl⟩ rfl rfl (Nat.le_of_ble_eq_true rfl) rfl ?_
                  refine X_iast (kx := ((((f_M_send 2 x1 x2 (Gv168 10 x1.toNatClampNeg) (Gv168 26 4) (t0_208 - x3) (Gv168 8 x1.toNatClampNeg) Gv168).2) 0 24) - 1).toNatClampNeg) Γ d_M_answer_259 (by decide) rfl 0 rfl (an_cnt h239 hI168.2.1) (fun _ => rfl) rfl rfl ?_
                  exact X_vret Γ d_M_answer_260 (gv_eq E)
              refine X_icmp_ge (tgt := 197) Γ d_M_answer_185 (by decide) rfl (fun h185 => ?_) (fun h185 => ?_)
              · replace E := E.trans (if_pos h185)
                refine X_aload_n Γ d_M_answer_197 rfl 0 rfl rfl ?_
                refine X_get Γ d_M_answer_198 (by decide) rfl rfl in_M 9 (by decide) w489 rfl rfl rfl ?_
                refine X_aload_n Γ d_M_answer_201 rfl 0 rfl rfl ?_
                refine X_get Γ d_M_answer_202 (by decide) rfl rfl in_M 13 (by decide) w493 rfl rfl rfl ?_
                refine X_iload_n Γ d_M_answer_205 rfl 1 rfl rfl ?_
                refine X_iald (v := (Gv168 7 x1.toNatClampNeg)) Γ d_M_answer_206 (by decide) rfl 0 rfl hb rfl rfl ?_
                refine X_iald (v := (Gv168 3 (Gv168 7 x1.toNatClampNeg).toNatClampNeg)) Γ d_M_answer_207 (by decide) rfl 0 rfl (hI168.1.1 _ (vp_lt hb)) rfl rfl ?_
                refine X_loc [0, 1, 2, 3, 4, 5, 6] rfl ?_
                exact J208 (Gv168 3 (Gv168 7 x1.toNatClampNeg).toNatClampNeg) (hI168.2.2.2 _ (vp_lt (hI168.1.1 _ (vp_lt hb)))) E
              · replace E := E.trans (if_neg h185)
                refine X_iload_n Γ d_M_answer_188 rfl 3 rfl rfl ?_
                refine X_aload_n Γ d_M_answer_189 rfl 0 rfl rfl ?_
                refine X_get Γ d_M_answer_190 (by decide) rfl rfl in_M 1 (by decide) w481 rfl rfl rfl ?_
                refine X_iadd Γ d_M_answer_193 rfl ?_
                refine X_goto (pc' := 208) Γ d_M_answer_194 (by decide) ?_
                refine X_loc [0, 1, 2, 3, 4, 5, 6] rfl ?_
                exact J208 (x3 + (Gv168 0 1)) (an_u1 hn hI168.2.2.1) E
            refine X_loc [0, 1, 2, 3, 4, 5, 6] rfl ?_
            exact J168 ((f_M_rise x1 (g2 (g2 G 15 ((4 * x1) + x2).toNatClampNeg t0_130) 16 ((4 * x1) + x2).toNatClampNeg t0_162))) (an_168 hT hc hB hD) E
          refine X_icmp_ne (tgt := 155) Γ d_M_answer_145 (by decide) rfl (fun h145 => ?_) (fun h145 => ?_)
          · replace E := E.trans (if_neg h145)
            refine X_aload_n Γ d_M_answer_155 rfl 0 rfl rfl ?_
            refine X_get Γ d_M_answer_156 (by decide) rfl rfl in_M 22 (by decide) w502 rfl rfl rfl ?_
            refine X_iload Γ d_M_answer_159 6 rfl rfl ?_
            refine X_iald (v := (G 16 ((4 * x1) + x2).toNatClampNeg)) Γ d_M_answer_161 (by decide) rfl 0 rfl (at16 hb hf) rfl rfl ?_
            refine X_loc [0, 1, 2, 3, 4, 5, 6] rfl ?_
            exact J162 (G 16 ((4 * x1) + x2).toNatClampNeg) trivial E
          · replace E := E.trans (if_pos h145)
            refine X_aload_n Γ d_M_answer_148 rfl 0 rfl rfl ?_
            refine X_get (v := .int (G 0 3)) Γ d_M_answer_149 (by decide) rfl rfl in_M 3 (by decide) w483 rfl rfl rfl ?_
            refine X_goto (pc' := 162) Γ d_M_answer_152 (by decide) ?_
            refine X_loc [0, 1, 2, 3, 4, 5, 6] rfl ?_
            exact J162 (G 0 3) trivial E
        refine X_icmp_le (tgt := 123) Γ d_M_answer_116 (by decide) rfl (fun h116 => ?_) (fun h116 => ?_)
        · replace E := E.trans (if_pos h116)
          refine X_aload_n Γ d_M_answer_123 rfl 2 rfl rfl ?_
          refine X_get Γ d_M_answer_124 (by decide) rfl rfl in_M 21 (by decide) w501 rfl rfl rfl ?_
          refine X_iload Γ d_M_answer_127 0 rfl rfl ?_
          refine X_iald (v := (G 15 ((4 * x1) + x2).toNatClampNeg)) Γ d_M_answer_129 (by decide) rfl 0 rfl (at16 hb hf) rfl rfl ?_
          refine X_loc [2, 3, 4, 5, 6, 1, 0] rfl ?_
          exact J130 (G 15 ((4 * x1) + x2).toNatClampNeg) trivial E
        · replace E := E.trans (if_neg h116)
          refine X_iload_n Γ d_M_answer_119 rfl 5 rfl rfl ?_
          refine X_goto (pc' := 130) Γ d_M_answer_120 (by decide) ?_
          refine X_loc [2, 3, 4, 5, 6, 1, 0] rfl ?_
          exact J130 x3 trivial E
      · replace E := E.trans (if_neg h47)
        refine X_aload_n Γ d_M_answer_50 rfl 1 rfl rfl ?_
        refine X_iload_n Γ d_M_answer_51 rfl 2 rfl rfl ?_
        refine X_iload Γ d_M_answer_52 5 rfl rfl ?_
        refine X_callVi (rest := []) Γ d_M_answer_54 (m_M_underEpoch l D cI cZ cB cM a hJ G x1 x4 hb hT) (by decide) rfl rfl rfl w676 w678 s_M_underEpoch w9 w679 e_M_underEpoch ⟨by decide, by decide⟩ ⟨rfl, rfl⟩ rfl rfl (Nat.le_of_ble_eq_true rfl) rfl ?_
        refine X_istore Γ d_M_answer_57 (by decide) rfl rfl ?_
        refine X_aload_n Γ d_M_answer_59 rfl 1 rfl rfl ?_
        refine X_iconst (v := 1) Γ d_M_answer_60 (by decide) rfl ?_
        refine X_iload_n Γ d_M_answer_61 rfl 2 rfl rfl ?_
        refine X_iload_n Γ d_M_answer_62 rfl 3 rfl rfl ?_
        refine X_aload_n Γ d_M_answer_63 rfl 1 rfl rfl ?_
        refine X_get Γ d_M_answer_64 (by decide) rfl rfl in_M 16 (by decide) w496 rfl rfl rfl ?_
        refine X_iload_n Γ d_M_answer_67 rfl 2 rfl rfl ?_
        refine X_iald (v := (G 10 x1.toNatClampNeg)) Γ d_M_answer_68 (by decide) rfl 0 rfl hb rfl rfl ?_
        refine X_aload_n Γ d_M_answer_69 rfl 1 rfl rfl ?_
        refine X_get Γ d_M_answer_70 (by decide) rfl rfl in_M 33 (by decide) w513 rfl rfl rfl ?_
        refine X_iconst (v := 4) Γ d_M_answer_73 (by decide) rfl ?_
        refine X_iald (v := (G 26 4)) Γ d_M_answer_74 (by decide) rfl 0 rfl in4_8 rfl rfl ?_
        refine X_aload_n Γ d_M_answer_75 rfl 1 rfl rfl ?_
        refine X_get Γ d_M_answer_76 (by decide) rfl rfl in_M 9 (by decide) w489 rfl rfl rfl ?_
        refine X_iload Γ d_M_answer_79 0 rfl rfl ?_
        refine X_iald (v := (G 3 ((f_M_underEpoch x1 x4 G)).toNatClampNeg)) Γ d_M_answer_81 (by decide) rfl 0 rfl (ue_in hb hT) rfl rfl ?_
        refine X_aload_n Γ d_M_answer_82 rfl 1 rfl rfl ?_
        refine X_get Γ d_M_answer_83 (by decide) rfl rfl in_M 10 (by decide) w490 rfl rfl rfl ?_
        refine X_iload Γ d_M_answer_86 0 rfl rfl ?_
        refine X_iald (v := (G 4 ((f_M_underEpoch x1 x4 G)).toNatClampNeg)) Γ d_M_answer_88 (by decide) rfl 0 rfl (ue_in hb hT) rfl rfl ?_
        refine X_callVi (rest := []) Γ d_M_answer_89 (m_M_send l D cI cZ cB cM a hJ G 1 x1 x2 (G 10 x1.toNatClampNeg) (G 26 4) (G 3 ((f_M_underEpoch x1 x4 G)).toNatClampNeg) (G 4 ((f_M_underEpoch x1 x4 G)).toNatClampNeg) hc) (by decide) rfl rfl rfl w639 w641 s_M_send w9 w642 e_M_send ⟨by decide, by decide⟩ ⟨rfl, rfl⟩ rfl rfl (Nat.le_of_ble_eq_true rfl) rfl ?_
        refine X_istore Γ d_M_answer_92 (by decide) rfl rfl ?_
        exact X_vret Γ d_M_answer_94 (gv_eq E)
  refine X_icmp_le (tgt := 19) Γ d_M_answer_12 (by decide) rfl (fun h12 => ?_) (fun h12 => ?_)
  · replace E := E.trans (if_pos h12)
    refine X_aload_n Γ d_M_answer_19 rfl 0 rfl rfl ?_
    refine X_iload_n Γ d_M_answer_20 rfl 1 rfl rfl ?_
    refine X_iload_n Γ d_M_answer_21 rfl 3 rfl rfl ?_
    refine X_callVi (rest := []) Γ d_M_answer_22 (m_M_upTo l D cI cZ cB cM a hJ G x1 x3 hb hT hn.1) (by decide) rfl rfl rfl w619 w621 s_M_upTo w9 w622 e_M_upTo ⟨by decide, by decide⟩ ⟨rfl, rfl⟩ rfl rfl (Nat.le_of_ble_eq_true rfl) rfl ?_
    refine X_loc [0, 1, 2, 3, 4] rfl ?_
    exact J25 ((f_M_upTo x1 x3 G)) (ut_in hb hT hn.1) E
  · replace E := E.trans (if_neg h12)
    refine X_iconst (v := 0) Γ d_M_answer_15 (by decide) rfl ?_
    refine X_goto (pc' := 25) Γ d_M_answer_16 (by decide) ?_
    refine X_loc [0, 1, 2, 3, 4] rfl ?_
    exact J25 0 in0_520 E
