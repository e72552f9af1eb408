theorem Z_lret {Y : Nat → Nat → Heap → List Loc → JFrame → Prop} {l : Launch} {s : State} {m : MethodId} {b nL : Nat} {own nm : String} {D : va_G} {cl : List vw_C} {tys : List (ClassId × FieldType)} {w : va_W} {cn sn pc : Nat} {L : List (Nat × Value)} (Γ : ZC Y l room_1 s m #[Value.ref b] code nL own nm ret (fun below => lw_Z below #[Value.ref b] s) D cl tys (fun q => s.heap.size ≤ q)) (hd : decode code pc = .ok (.ireturn, 1)) (hc : cn ≤ 600000) (hs : sn ≤ 7302250) : Z Y s m D cl (fun q => s.heap.size ≤ q) nL w cn sn pc L [.int 1] := by
  obtain ⟨⟨p, e, below, meth, c, rfl, ⟨hx, hb, hml, hown, hts⟩, hr, hlk, hnm⟩, hK, hNs, hOs, hA⟩ := Γ
  intro H locs ls h1 hD h2 h3
  refine va_forget (fun q hq => h2.2.2 q hq) ?_
  exact W.widen hc hs (lw_ret hx hb hr hlk hd)
set_option maxHeartbeats 4000000 in
set_option maxRecDepth 100000 in
theorem law_Z {Y : Nat → Nat → Heap → List Loc → JFrame → Prop} {l : Launch} {s : State} {m : MethodId} {nm : String} {D : va_G} {cI cZ cB cM : ClassId} {b L0 : Nat} {xs : Nat → Int32} (hS : SimAll) (hL : L0 ≤ 1539) (Γ : ZC Y l room_1 s m #[Value.ref b] code 4 "InSyncLogLaw" nm ret (fun below => lw_Z below #[Value.ref b] s) D xcl (xty cI cZ cB cM) (fun q => s.heap.size ≤ q)) (hX : va_X b L0 xs s s.heap) (hb0 : b < s.heap.size) : Z Y s m D xcl (fun q => s.heap.size ≤ q) 4 [] 0 0 0 [(0, .ref b)] [] := by
  have hbA : ¬ s.heap.size ≤ b := Nat.not_le.mpr hb0
  refine Z_new (ci := 5) (fs := [.int 0, .int 0, .int 0, .null, .null, .null, .int 0]) Γ d_W_law_0 rfl in_I ty_I ty_I_ok w11 w12 w1 df_I (by decide) (by decide) rfl (fun q0 => ?_)
  refine Z_dup Γ d_W_law_3 rfl rfl ?_
  refine Z_aload_n Γ d_W_law_4 rfl 0 rfl rfl ?_
  refine Z_iconst (v := 0) Γ d_W_law_5 (by decide) rfl ?_
  refine Z_callSs (rest := [.ref q0, .ref q0]) Γ d_W_law_6 (fun sz => m_W_cell l D cI cZ cB cM b L0 xs hL 0 (by decide) sz) hX hb0 hbA w467 w468 w0 w469 e_W_cell ⟨by decide, by decide⟩ ⟨rfl, rfl⟩ rfl rfl (Nat.le_of_ble_eq_true rfl) ⟨by decide, by decide⟩ rfl ?_
  refine Z_aload_n Γ d_W_law_9 rfl 0 rfl rfl ?_
  refine Z_iconst (v := 1) Γ d_W_law_10 (by decide) rfl ?_
  refine Z_callSs (rest := [.int (cellN L0 xs 0), .ref q0, .ref q0]) Γ d_W_law_11 (fun sz => m_W_cell l D cI cZ cB cM b L0 xs hL 1 (by decide) sz) hX hb0 hbA w467 w468 w0 w469 e_W_cell ⟨by decide, by decide⟩ ⟨rfl, rfl⟩ rfl rfl (Nat.le_of_ble_eq_true rfl) ⟨by decide, by decide⟩ rfl ?_
  refine Z_aload_n Γ d_W_law_14 rfl 0 rfl rfl ?_
  refine Z_iconst (v := 2) Γ d_W_law_15 (by decide) rfl ?_
  refine Z_callSs (rest := [.int (cellN L0 xs 1), .int (cellN L0 xs 0), .ref q0, .ref q0]) Γ d_W_law_16 (fun sz => m_W_cell l D cI cZ cB cM b L0 xs hL 2 (by decide) sz) hX hb0 hbA w467 w468 w0 w469 e_W_cell ⟨by decide, by decide⟩ ⟨rfl, rfl⟩ rfl rfl (Nat.le_of_ble_eq_true rfl) ⟨by decide, by decide⟩ rfl ?_
  refine Z_callI (rest := [.ref q0]) Γ d_W_law_19 (fun sz => m_I_init l D cI cZ cB cM q0 sz (cellN L0 xs 0) (cellN L0 xs 1) (cellN L0 xs 2)) w13 w14 rfl w1 w15 e_I_init ⟨by decide, by decide⟩ ⟨rfl, rfl⟩ rfl rfl (Nat.le_of_ble_eq_true rfl) ⟨by decide, by decide⟩ rfl (fun u huu => ?_)
  subst huu
  refine Z_astore_n Γ d_W_law_22 rfl (by decide) rfl rfl ?_
  refine Z_new (ci := 6) (fs := [.int 0, .int 0, .int 0, .int 0, .int 0, .int 0, .null, .int 0, .null, .null, .null, .null, .null, .null, .null, .null, .null, .null, .null, .null, .null, .null, .null, .null, .int 0, .null, .null, .null, .null, .null, .null, .null, .null, .null]) Γ d_W_law_23 rfl in_M ty_M ty_M_ok w470 w471 w9 df_M (by decide) (by decide) rfl (fun q1 => ?_)
  refine Z_dup Γ d_W_law_26 rfl rfl ?_
  refine Z_aload_n Γ d_W_law_27 rfl 1 rfl rfl ?_
  refine Z_iconst (v := 0) Γ d_W_law_28 (by decide) rfl ?_
  refine Z_callSs (rest := [.ref q1, .ref q1]) Γ d_W_law_29 (fun sz => m_W_cell l D cI cZ cB cM b L0 xs hL 0 (by decide) sz) hX hb0 hbA w467 w468 w0 w469 e_W_cell ⟨by decide, by decide⟩ ⟨rfl, rfl⟩ rfl rfl (Nat.le_of_ble_eq_true rfl) ⟨by decide, by decide⟩ rfl ?_
  refine Z_aload_n Γ d_W_law_32 rfl 1 rfl rfl ?_
  refine Z_iconst (v := 1) Γ d_W_law_33 (by decide) rfl ?_
  refine Z_callSs (rest := [.int (cellN L0 xs 0), .ref q1, .ref q1]) Γ d_W_law_34 (fun sz => m_W_cell l D cI cZ cB cM b L0 xs hL 1 (by decide) sz) hX hb0 hbA w467 w468 w0 w469 e_W_cell ⟨by decide, by decide⟩ ⟨rfl, rfl⟩ rfl rfl (Nat.le_of_ble_eq_true rfl) ⟨by decide, by decide⟩ rfl ?_
  refine Z_aload_n Γ d_W_law_37 rfl 1 rfl rfl ?_
  refine Z_iconst (v := 2) Γ d_W_law_38 (by decide) rfl ?_
  refine Z_callSs (rest := [.int (cellN L0 xs 1), .int (cellN L0 xs 0), .ref q1, .ref q1]) Γ d_W_law_39 (fun sz => m_W_cell l D cI cZ cB cM b L0 xs hL 2 (by decide) sz) hX hb0 hbA w467 w468 w0 w469 e_W_cell ⟨by decide, by decide⟩ ⟨rfl, rfl⟩ rfl rfl (Nat.le_of_ble_eq_true rfl) ⟨by decide, by decide⟩ rfl ?_
  refine Z_callI (rest := [.ref q1]) Γ d_W_law_42 (fun sz => m_M_init l D cI cZ cB cM q1 sz (cellN L0 xs 0) (cellN L0 xs 1) (cellN L0 xs 2)) w472 w473 rfl w9 w474 e_M_init ⟨by decide, by decide⟩ ⟨rfl, rfl⟩ rfl rfl (Nat.le_of_ble_eq_true rfl) ⟨by decide, by decide⟩ rfl (fun v huv => ?_)
  subst huv
  refine Z_astore_n Γ d_W_law_45 rfl (by decide) rfl rfl ?_
  refine Z_iconst (v := 3) Γ d_W_law_46 (by decide) rfl ?_
  refine Z_istore_n Γ d_W_law_47 rfl (by decide) rfl rfl ?_
  refine Z_eq xw_law ?_
  refine Z_apart (fun hD9 => ?_)
  have hJu : xJ 56 u := fun i j hi hj e => xJ_of hD9 i j (by omega) (by omega) (by unfold aW; rw [if_pos hi, if_pos hj]; exact e)
  have hJv : xJ 27 v := fun i j hi hj e => by
    have h9 := xJ_of hD9 (56 + i) (56 + j) (by omega) (by omega) (by rw [aW_M i hi, aW_M j hj]; exact e)
    omega
  have J : ∀ (f k : Nat) (G : Nat → Nat → Int32) (P : Nat → Nat) (U : Nat → Nat → Int32), L0 ≤ 3 + 3 * k + 3 * f → Inv k G P U → Z Y s m D xcl (fun q => s.heap.size ≤ q) 4 (xw 83 (aW u v) (eW cI cZ cB cM u v P G U)) 83 3362 48 [(0, .ref b), (1, .ref (u 0)), (2, .ref (v 0)), (3, .int (nI (3 + 3 * k)))] [] := by
    intro f
    induction f with
    | zero =>
      intro k G P U hf hI
      refine Z_iload_n Γ d_W_law_48 rfl 3 rfl rfl ?_
      refine Z_aload_n Γ d_W_law_49 rfl 0 rfl rfl ?_
      refine Z_slen Γ d_W_law_50 hX hb0 hbA rfl ?_
      refine Z_iconst (v := 3) Γ d_W_law_51 (by decide) rfl ?_
      refine Z_isub Γ d_W_law_52 rfl ?_
      refine Z_icmp_gt (tgt := 655) Γ d_W_law_53 (by decide) rfl (fun h => ?_) (fun h => ?_)
      · refine Z_iconst (v := 1) Γ d_W_law_655 (by decide) rfl ?_
        exact Z_lret Γ d_W_law_656 (by decide) (by decide)
      ·
        have h3 := sc_lt hL h hI.1
        exact absurd h3 (by omega)
    | succ f ih =>
      intro k G P U hf hI
      refine Z_iload_n Γ d_W_law_48 rfl 3 rfl rfl ?_
      refine Z_aload_n Γ d_W_law_49 rfl 0 rfl rfl ?_
      refine Z_slen Γ d_W_law_50 hX hb0 hbA rfl ?_
      refine Z_iconst (v := 3) Γ d_W_law_51 (by decide) rfl ?_
      refine Z_isub Γ d_W_law_52 rfl ?_
      refine Z_icmp_gt (tgt := 655) Γ d_W_law_53 (by decide) rfl (fun h => ?_) (fun h => ?_)
      · refine Z_iconst (v := 1) Γ d_W_law_655 (by decide) rfl ?_
        exact Z_lret Γ d_W_law_656 (by decide) (by decide)
      ·
        have h3 := sc_lt hL h hI.1
        have hk1 : k + 1 ≤ 512 := by omega
        refine Z_aload_n Γ d_W_law_56 rfl 0 rfl rfl ?_
        refine Z_iload_n Γ d_W_law_57 rfl 3 rfl rfl ?_
        refine Z_sld Γ d_W_law_58 hX hb0 hbA (sc0 hL h3) (sv0 hL h3) rfl ?_
        refine Z_bipush (v := 31) Γ d_W_law_59 (by decide) rfl ?_
        refine Z_iand Γ d_W_law_61 rfl ?_
        by_cases h_0 : xs (3 + 3 * k) &&& 31 = 0
        ·
          refine Z_tableIn (pc' := 152) (off := 90) Γ d_W_law_62 h_0 (by decide) (by decide) (by decide) (by decide) ?_
          refine Z_aload_n Γ d_W_law_152 rfl 1 rfl rfl ?_
          refine Z_aload_n Γ d_W_law_153 rfl 0 rfl rfl ?_
          refine Z_iload_n Γ d_W_law_154 rfl 3 rfl rfl ?_
          refine Z_iconst (v := 1) Γ d_W_law_155 (by decide) rfl ?_
          refine Z_iadd Γ d_W_law_156 rfl ?_
          refine Z_sld Γ d_W_law_157 hX hb0 hbA (sc1 hL h3) (sv1 hL h3) rfl ?_
          refine Z_aload_n Γ d_W_law_158 rfl 0 rfl rfl ?_
          refine Z_iload_n Γ d_W_law_159 rfl 3 rfl rfl ?_
          refine Z_iconst (v := 2) Γ d_W_law_160 (by decide) rfl ?_
          refine Z_iadd Γ d_W_law_161 rfl ?_
          refine Z_sld Γ d_W_law_162 hX hb0 hbA (sc2 hL h3) (sv2 hL h3) rfl ?_
          refine Z_cC (rest := []) Γ d_W_law_163 (m_I_produce l D cI cZ cB cM u hJu P G (xs (3 + 3 * k + 1)) (xs (3 + 3 * k + 2)) (inv_E hI)) w217 w218 w219 w1 w220 e_I_produce ⟨by decide, by decide⟩ ⟨rfl, rfl⟩ rfl rfl (Nat.le_of_ble_eq_true rfl) ⟨by decide, by decide⟩ rfl ?_
          refine Z_aload_n Γ d_W_law_166 rfl 2 rfl rfl ?_
          refine Z_aload_n Γ d_W_law_167 rfl 0 rfl rfl ?_
          refine Z_iload_n Γ d_W_law_168 rfl 3 rfl rfl ?_
          refine Z_iconst (v := 1) Γ d_W_law_169 (by decide) rfl ?_
          refine Z_iadd Γ d_W_law_170 rfl ?_
          refine Z_sld Γ d_W_law_171 hX hb0 hbA (sc1 hL h3) (sv1 hL h3) rfl ?_
          refine Z_aload_n Γ d_W_law_172 rfl 0 rfl rfl ?_
          refine Z_iload_n Γ d_W_law_173 rfl 3 rfl rfl ?_
          refine Z_iconst (v := 2) Γ d_W_law_174 (by decide) rfl ?_
          refine Z_iadd Γ d_W_law_175 rfl ?_
          refine Z_sld Γ d_W_law_176 hX hb0 hbA (sc2 hL h3) (sv2 hL h3) rfl ?_
          refine Z_cM (rest := [.int ((f_I_produce (xs (3 + 3 * k + 1)) (xs (3 + 3 * k + 2)) G).1)]) Γ d_W_law_177 (m_M_produce l D cI cZ cB cM v hJv U (xs (3 + 3 * k + 1)) (xs (3 + 3 * k + 2)) (inv_T hI) (inv_R hI) (inv_last hI)) w584 w585 w586 w9 w587 e_M_produce ⟨by decide, by decide⟩ ⟨rfl, rfl⟩ rfl rfl (Nat.le_of_ble_eq_true rfl) ⟨by decide, by decide⟩ rfl ?_
          refine Z_icmp_eq (tgt := 649) Γ d_W_law_180 (by decide) rfl (fun h9 => ?_) (fun h9 => absurd (hS.produce k G P U (xs (3 + 3 * k + 1)) (xs (3 + 3 * k + 2)) hk1 hI).1 h9)
          refine Z_iinc (v := nI (3 + 3 * (k + 1))) Γ d_W_law_649 3 rfl si3 (by decide) rfl rfl ?_
          refine Z_goto (pc' := 48) Γ d_W_law_652 (by decide) ?_
          refine Z_loc [1, 2, 3, 0] rfl ?_
          exact ih (k + 1) ((f_I_produce (xs (3 + 3 * k + 1)) (xs (3 + 3 * k + 2)) G).2) P ((f_M_produce (xs (3 + 3 * k + 1)) (xs (3 + 3 * k + 2)) U).2) (by omega) (hS.produce k G P U (xs (3 + 3 * k + 1)) (xs (3 + 3 * k + 2)) hk1 hI).2
        by_cases h_1 : xs (3 + 3 * k) &&& 31 = 1
        ·
          refine Z_tableIn (pc' := 185) (off := 123) Γ d_W_law_62 h_1 (by decide) (by decide) (by decide) (by decide) ?_
          refine Z_aload_n Γ d_W_law_185 rfl 1 rfl rfl ?_
          refine Z_aload_n Γ d_W_law_186 rfl 0 rfl rfl ?_
          refine Z_iload_n Γ d_W_law_187 rfl 3 rfl rfl ?_
          refine Z_iconst (v := 1) Γ d_W_law_188 (by decide) rfl ?_
          refine Z_iadd Γ d_W_law_189 rfl ?_
          refine Z_sld Γ d_W_law_190 hX hb0 hbA (sc1 hL h3) (sv1 hL h3) rfl ?_
          refine Z_aload_n Γ d_W_law_191 rfl 0 rfl rfl ?_
          refine Z_iload_n Γ d_W_law_192 rfl 3 rfl rfl ?_
          refine Z_iconst (v := 2) Γ d_W_law_193 (by decide) rfl ?_
          refine Z_iadd Γ d_W_law_194 rfl ?_
          refine Z_sld Γ d_W_law_195 hX hb0 hbA (sc2 hL h3) (sv2 hL h3) rfl ?_
          refine Z_cC (rest := []) Γ d_W_law_196 (m_I_commit l D cI cZ cB cM u hJu P G (xs (3 + 3 * k + 1)) (xs (3 + 3 * k + 2)) (inv_E hI)) w260 w261 w262 w1 w263 e_I_commit ⟨by decide, by decide⟩ ⟨rfl, rfl⟩ rfl rfl (Nat.le_of_ble_eq_true rfl) ⟨by decide, by decide⟩ rfl ?_
          refine Z_aload_n Γ d_W_law_199 rfl 2 rfl rfl ?_
          refine Z_aload_n Γ d_W_law_200 rfl 0 rfl rfl ?_
          refine Z_iload_n Γ d_W_law_201 rfl 3 rfl rfl ?_
          refine Z_iconst (v := 1) Γ d_W_law_202 (by decide) rfl ?_
          refine Z_iadd Γ d_W_law_203 rfl ?_
          refine Z_sld Γ d_W_law_204 hX hb0 hbA (sc1 hL h3) (sv1 hL h3) rfl ?_
          refine Z_aload_n Γ d_W_law_205 rfl 0 rfl rfl ?_
          refine Z_iload_n Γ d_W_law_206 rfl 3 rfl rfl ?_
          refine Z_iconst (v := 2) Γ d_W_law_207 (by decide) rfl ?_
          refine Z_iadd Γ d_W_law_208 rfl ?_
          refine Z_sld Γ d_W_law_209 hX hb0 hbA (sc2 hL h3) (sv2 hL h3) rfl ?_
          refine Z_cM (rest := [.int ((f_I_commit (xs (3 + 3 * k + 1)) (xs (3 + 3 * k + 2)) G).1)]) Γ d_W_law_210 (m_M_commit l D cI cZ cB cM v hJv U (xs (3 + 3 * k + 1)) (xs (3 + 3 * k + 2)) (inv_T hI) (inv_R hI) (inv_last hI)) w607 w608 w609 w9 w610 e_M_commit ⟨by decide, by decide⟩ ⟨rfl, rfl⟩ rfl rfl (Nat.le_of_ble_eq_true rfl) ⟨by decide, by decide⟩ rfl ?_
          refine Z_icmp_eq (tgt := 649) Γ d_W_law_213 (by decide) rfl (fun h9 => ?_) (fun h9 => absurd (hS.commit k G P U (xs (3 + 3 * k + 1)) (xs (3 + 3 * k + 2)) hk1 hI).1 h9)
          refine Z_iinc (v := nI (3 + 3 * (k + 1))) Γ d_W_law_649 3 rfl si3 (by decide) rfl rfl ?_
          refine Z_goto (pc' := 48) Γ d_W_law_652 (by decide) ?_
          refine Z_loc [1, 2, 3, 0] rfl ?_
          exact ih (k + 1) ((f_I_commit (xs (3 + 3 * k + 1)) (xs (3 + 3 * k + 2)) G).2) P ((f_M_commit (xs (3 + 3 * k + 1)) (xs (3 + 3 * k + 2)) U).2) (by omega) (hS.commit k G P U (xs (3 + 3 * k + 1)) (xs (3 + 3 * k + 2)) hk1 hI).2
        by_cases h_2 : xs (3 + 3 * k) &&& 31 = 2
        ·
          refine Z_tableIn (pc' := 218) (off := 156) Γ d_W_law_62 h_2 (by decide) (by decide) (by decide) (by decide) ?_
          refine Z_aload_n Γ d_W_law_218 rfl 1 rfl rfl ?_
          refine Z_aload_n Γ d_W_law_219 rfl 0 rfl rfl ?_
          refine Z_iload_n Γ d_W_law_220 rfl 3 rfl rfl ?_
          refine Z_iconst (v := 1) Γ d_W_law_221 (by decide) rfl ?_
          refine Z_iadd Γ d_W_law_222 rfl ?_
          refine Z_sld Γ d_W_law_223 hX hb0 hbA (sc1 hL h3) (sv1 hL h3) rfl ?_
          refine Z_aload_n Γ d_W_law_224 rfl 0 rfl rfl ?_
          refine Z_iload_n Γ d_W_law_225 rfl 3 rfl rfl ?_
          refine Z_iconst (v := 2) Γ d_W_law_226 (by decide) rfl ?_
          refine Z_iadd Γ d_W_law_227 rfl ?_
          refine Z_sld Γ d_W_law_228 hX hb0 hbA (sc2 hL h3) (sv2 hL h3) rfl ?_
          refine Z_cC (rest := []) Γ d_W_law_229 (m_I_readable l D cI cZ cB cM u hJu P G (xs (3 + 3 * k + 1)) (xs (3 + 3 * k + 2)) (inv_E hI)) w264 w265 w266 w1 w267 e_I_readable ⟨by decide, by decide⟩ ⟨rfl, rfl⟩ rfl rfl (Nat.le_of_ble_eq_true rfl) ⟨by decide, by decide⟩ rfl ?_
          refine Z_aload_n Γ d_W_law_232 rfl 2 rfl rfl ?_
          refine Z_aload_n Γ d_W_law_233 rfl 0 rfl rfl ?_
          refine Z_iload_n Γ d_W_law_234 rfl 3 rfl rfl ?_
          refine Z_iconst (v := 1) Γ d_W_law_235 (by decide) rfl ?_
          refine Z_iadd Γ d_W_law_236 rfl ?_
          refine Z_sld Γ d_W_law_237 hX hb0 hbA (sc1 hL h3) (sv1 hL h3) rfl ?_
          refine Z_aload_n Γ d_W_law_238 rfl 0 rfl rfl ?_
          refine Z_iload_n Γ d_W_law_239 rfl 3 rfl rfl ?_
          refine Z_iconst (v := 2) Γ d_W_law_240 (by decide) rfl ?_
          refine Z_iadd Γ d_W_law_241 rfl ?_
          refine Z_sld Γ d_W_law_242 hX hb0 hbA (sc2 hL h3) (sv2 hL h3) rfl ?_
          refine Z_cM (rest := [.int (f_I_readable (xs (3 + 3 * k + 1)) (xs (3 + 3 * k + 2)) G)]) Γ d_W_law_243 (m_M_readable l D cI cZ cB cM v hJv U (xs (3 + 3 * k + 1)) (xs (3 + 3 * k + 2)) (inv_T hI)) w611 w612 w613 w9 w614 e_M_readable ⟨by decide, by decide⟩ ⟨rfl, rfl⟩ rfl rfl (Nat.le_of_ble_eq_true rfl) ⟨by decide, by decide⟩ rfl ?_
          refine Z_icmp_eq (tgt := 649) Γ d_W_law_246 (by decide) rfl (fun h9 => ?_) (fun h9 => absurd (hS.readable k G P U (xs (3 + 3 * k + 1)) (xs (3 + 3 * k + 2)) hk1 hI).1 h9)
          refine Z_iinc (v := nI (3 + 3 * (k + 1))) Γ d_W_law_649 3 rfl si3 (by decide) rfl rfl ?_
          refine Z_goto (pc' := 48) Γ d_W_law_652 (by decide) ?_
          refine Z_loc [1, 2, 3, 0] rfl ?_
          exact ih (k + 1) G P U (by omega) (hS.readable k G P U (xs (3 + 3 * k + 1)) (xs (3 + 3 * k + 2)) hk1 hI).2
        by_cases h_3 : xs (3 + 3 * k) &&& 31 = 3
        ·
          refine Z_tableIn (pc' := 251) (off := 189) Γ d_W_law_62 h_3 (by decide) (by decide) (by decide) (by decide) ?_
          refine Z_aload_n Γ d_W_law_251 rfl 1 rfl rfl ?_
          refine Z_aload_n Γ d_W_law_252 rfl 0 rfl rfl ?_
          refine Z_iload_n Γ d_W_law_253 rfl 3 rfl rfl ?_
          refine Z_iconst (v := 1) Γ d_W_law_254 (by decide) rfl ?_
          refine Z_iadd Γ d_W_law_255 rfl ?_
          refine Z_sld Γ d_W_law_256 hX hb0 hbA (sc1 hL h3) (sv1 hL h3) rfl ?_
          refine Z_cC (rest := []) Γ d_W_law_257 (m_I_committed l D cI cZ cB cM u hJu P G (xs (3 + 3 * k + 1)) (inv_E hI) (inv_W hI)) w281 w282 w283 w1 w284 e_I_committed ⟨by decide, by decide⟩ ⟨rfl, rfl⟩ rfl rfl (Nat.le_of_ble_eq_true rfl) ⟨by decide, by decide⟩ rfl ?_
          refine Z_aload_n Γ d_W_law_260 rfl 2 rfl rfl ?_
          refine Z_aload_n Γ d_W_law_261 rfl 0 rfl rfl ?_
          refine Z_iload_n Γ d_W_law_262 rfl 3 rfl rfl ?_
          refine Z_iconst (v := 1) Γ d_W_law_263 (by decide) rfl ?_
          refine Z_iadd Γ d_W_law_264 rfl ?_
          refine Z_sld Γ d_W_law_265 hX hb0 hbA (sc1 hL h3) (sv1 hL h3) rfl ?_
          refine Z_cM (rest := [.int (f_I_committed (xs (3 + 3 * k + 1)) G)]) Γ d_W_law_266 (m_M_committed l D cI cZ cB cM v hJv U (xs (3 + 3 * k + 1)) (inv_T hI) (inv_hH hI)) w623 w624 w625 w9 w626 e_M_committed ⟨by decide, by decide⟩ ⟨rfl, rfl⟩ rfl rfl (Nat.le_of_ble_eq_true rfl) ⟨by decide, by decide⟩ rfl ?_
          refine Z_icmp_eq (tgt := 649) Γ d_W_law_269 (by decide) rfl (fun h9 => ?_) (fun h9 => absurd (hS.committed k G P U (xs (3 + 3 * k + 1)) (xs (3 + 3 * k + 2)) hk1 hI).1 h9)
          refine Z_iinc (v := nI (3 + 3 * (k + 1))) Γ d_W_law_649 3 rfl si3 (by decide) rfl rfl ?_
          refine Z_goto (pc' := 48) Γ d_W_law_652 (by decide) ?_
          refine Z_loc [1, 2, 3, 0] rfl ?_
          exact ih (k + 1) G P U (by omega) (hS.committed k G P U (xs (3 + 3 * k + 1)) (xs (3 + 3 * k + 2)) hk1 hI).2
        by_cases h_4 : xs (3 + 3 * k) &&& 31 = 4
        ·
          refine Z_tableIn (pc' := 274) (off := 212) Γ d_W_law_62 h_4 (by decide) (by decide) (by decide) (by decide) ?_
          refine Z_aload_n Γ d_W_law_274 rfl 1 rfl rfl ?_
          refine Z_aload_n Γ d_W_law_275 rfl 0 rfl rfl ?_
          refine Z_iload_n Γ d_W_law_276 rfl 3 rfl rfl ?_
          refine Z_iconst (v := 1) Γ d_W_law_277 (by decide) rfl ?_
          refine Z_iadd Γ d_W_law_278 rfl ?_
          refine Z_sld Γ d_W_law_279 hX hb0 hbA (sc1 hL h3) (sv1 hL h3) rfl ?_
          refine Z_cC (rest := []) Γ d_W_law_280 (m_I_fetch l D cI cZ cB cM u hJu P G (xs (3 + 3 * k + 1)) (inv_E hI) (inv_P hI) (inv_H hI)) w289 w290 w291 w1 w292 e_I_fetch ⟨by decide, by decide⟩ ⟨rfl, rfl⟩ rfl rfl (Nat.le_of_ble_eq_true rfl) ⟨by decide, by decide⟩ rfl ?_
          refine Z_aload_n Γ d_W_law_283 rfl 2 rfl rfl ?_
          refine Z_aload_n Γ d_W_law_284 rfl 0 rfl rfl ?_
          refine Z_iload_n Γ d_W_law_285 rfl 3 rfl rfl ?_
          refine Z_iconst (v := 1) Γ d_W_law_286 (by decide) rfl ?_
          refine Z_iadd Γ d_W_law_287 rfl ?_
          refine Z_sld Γ d_W_law_288 hX hb0 hbA (sc1 hL h3) (sv1 hL h3) rfl ?_
          refine Z_cM (rest := [.int ((f_I_fetch (xs (3 + 3 * k + 1)) G P).1)]) Γ d_W_law_289 (m_M_fetch l D cI cZ cB cM v hJv U (xs (3 + 3 * k + 1)) (inv_T hI) (inv_K hI)) w635 w636 w637 w9 w638 e_M_fetch ⟨by decide, by decide⟩ ⟨rfl, rfl⟩ rfl rfl (Nat.le_of_ble_eq_true rfl) ⟨by decide, by decide⟩ rfl ?_
          refine Z_icmp_eq (tgt := 649) Γ d_W_law_292 (by decide) rfl (fun h9 => ?_) (fun h9 => absurd (hS.fetch k G P U (xs (3 + 3 * k + 1)) (xs (3 + 3 * k + 2)) hk1 hI).1 h9)
          refine Z_iinc (v := nI (3 + 3 * (k + 1))) Γ d_W_law_649 3 rfl si3 (by decide) rfl rfl ?_
          refine Z_goto (pc' := 48) Γ d_W_law_652 (by decide) ?_
          refine Z_loc [1, 2, 3, 0] rfl ?_
          exact ih (k + 1) ((f_I_fetch (xs (3 + 3 * k + 1)) G P).2) P ((f_M_fetch (xs (3 + 3 * k + 1)) U).2) (by omega) (hS.fetch k G P U (xs (3 + 3 * k + 1)) (xs (3 + 3 * k + 2)) hk1 hI).2
        by_cases h_5 : xs (3 + 3 * k) &&& 31 = 5
        ·
          refine Z_tableIn (pc' := 297) (off := 235) Γ d_W_law_62 h_5 (by decide) (by decide) (by decide) (by decide) ?_
          refine Z_aload_n Γ d_W_law_297 rfl 1 rfl rfl ?_
          refine Z_aload_n Γ d_W_law_298 rfl 0 rfl rfl ?_
          refine Z_iload_n Γ d_W_law_299 rfl 3 rfl rfl ?_
          refine Z_iconst (v := 1) Γ d_W_law_300 (by decide) rfl ?_
          refine Z_iadd Γ d_W_law_301 rfl ?_
          refine Z_sld Γ d_W_law_302 hX hb0 hbA (sc1 hL h3) (sv1 hL h3) rfl ?_
          refine Z_cC (rest := []) Γ d_W_law_303 (m_I_deliver l D cI cZ cB cM u hJu P G (xs (3 + 3 * k + 1)) (inv_P hI) (inv_H hI) (inv_E hI) (inv_Q hI)) w312 w313 w314 w1 w315 e_I_deliver ⟨by decide, by decide⟩ ⟨rfl, rfl⟩ rfl rfl (Nat.le_of_ble_eq_true rfl) ⟨by decide, by decide⟩ rfl ?_
          refine Z_aload_n Γ d_W_law_306 rfl 2 rfl rfl ?_
          refine Z_aload_n Γ d_W_law_307 rfl 0 rfl rfl ?_
          refine Z_iload_n Γ d_W_law_308 rfl 3 rfl rfl ?_
          refine Z_iconst (v := 1) Γ d_W_law_309 (by decide) rfl ?_
          refine Z_iadd Γ d_W_law_310 rfl ?_
          refine Z_sld Γ d_W_law_311 hX hb0 hbA (sc1 hL h3) (sv1 hL h3) rfl ?_
          refine Z_cM (rest := [.int ((f_I_deliver (xs (3 + 3 * k + 1)) G P).1)]) Γ d_W_law_312 (m_M_deliver l D cI cZ cB cM v hJv U (xs (3 + 3 * k + 1)) (inv_T hI) (inv_K hI) (inv_okQ hI) (inv_B hI) (inv_D hI)) w667 w668 w669 w9 w670 e_M_deliver ⟨by decide, by decide⟩ ⟨rfl, rfl⟩ rfl rfl (Nat.le_of_ble_eq_true rfl) ⟨by decide, by decide⟩ rfl ?_
          refine Z_icmp_eq (tgt := 649) Γ d_W_law_315 (by decide) rfl (fun h9 => ?_) (fun h9 => absurd (hS.deliver k G P U (xs (3 + 3 * k + 1)) (xs (3 + 3 * k + 2)) hk1 hI).1 h9)
          refine Z_iinc (v := nI (3 + 3 * (k + 1))) Γ d_W_law_649 3 rfl si3 (by decide) rfl rfl ?_
          refine Z_goto (pc' := 48) Γ d_W_law_652 (by decide) ?_
          refine Z_loc [1, 2, 3, 0] rfl ?_
          exact ih (k + 1) ((f_I_deliver (xs (3 + 3 * k + 1)) G P).2.1) ((f_I_deliver (xs (3 + 3 * k + 1)) G P).2.2) ((f_M_deliver (xs (3 + 3 * k + 1)) U).2) (by omega) (hS.deliver k G P U (xs (3 + 3 * k + 1)) (xs (3 + 3 * k + 2)) hk1 hI).2
        by_cases h_6 : xs (3 + 3 * k) &&& 31 = 6
        ·
          refine Z_tableIn (pc' := 320) (off := 258) Γ d_W_law_62 h_6 (by decide) (by decide) (by decide) (by decide) ?_
          refine Z_aload_n Γ d_W_law_320 rfl 1 rfl rfl ?_
          refine Z_aload_n Γ d_W_law_321 rfl 0 rfl rfl ?_
          refine Z_iload_n Γ d_W_law_322 rfl 3 rfl rfl ?_
          refine Z_iconst (v := 1) Γ d_W_law_323 (by decide) rfl ?_
          refine Z_iadd Γ d_W_law_324 rfl ?_
          refine Z_sld Γ d_W_law_325 hX hb0 hbA (sc1 hL h3) (sv1 hL h3) rfl ?_
          refine Z_cC (rest := []) Γ d_W_law_326 (m_I_lose l D cI cZ cB cM u hJu P G (xs (3 + 3 * k + 1)) (inv_P hI) (inv_H hI)) w376 w377 w378 w1 w379 e_I_lose ⟨by decide, by decide⟩ ⟨rfl, rfl⟩ rfl rfl (Nat.le_of_ble_eq_true rfl) ⟨by decide, by decide⟩ rfl ?_
          refine Z_aload_n Γ d_W_law_329 rfl 2 rfl rfl ?_
          refine Z_aload_n Γ d_W_law_330 rfl 0 rfl rfl ?_
          refine Z_iload_n Γ d_W_law_331 rfl 3 rfl rfl ?_
          refine Z_iconst (v := 1) Γ d_W_law_332 (by decide) rfl ?_
          refine Z_iadd Γ d_W_law_333 rfl ?_
          refine Z_sld Γ d_W_law_334 hX hb0 hbA (sc1 hL h3) (sv1 hL h3) rfl ?_
          refine Z_cM (rest := [.int ((f_I_lose (xs (3 + 3 * k + 1)) G P).1)]) Γ d_W_law_335 (m_M_lose l D cI cZ cB cM v hJv U (xs (3 + 3 * k + 1)) (inv_K hI)) w643 w644 w645 w9 w646 e_M_lose ⟨by decide, by decide⟩ ⟨rfl, rfl⟩ rfl rfl (Nat.le_of_ble_eq_true rfl) ⟨by decide, by decide⟩ rfl ?_
          refine Z_icmp_eq (tgt := 649) Γ d_W_law_338 (by decide) rfl (fun h9 => ?_) (fun h9 => absurd (hS.lose k G P U (xs (3 + 3 * k + 1)) (xs (3 + 3 * k + 2)) hk1 hI).1 h9)
          refine Z_iinc (v := nI (3 + 3 * (k + 1))) Γ d_W_law_649 3 rfl si3 (by decide) rfl rfl ?_
          refine Z_goto (pc' := 48) Γ d_W_law_652 (by decide) ?_
          refine Z_loc [1, 2, 3, 0] rfl ?_
          exact ih (k + 1) ((f_I_lose (xs (3 + 3 * k + 1)) G P).2.1) ((f_I_lose (xs (3 + 3 * k + 1)) G P).2.2) ((f_M_lose (xs (3 + 3 * k + 1)) U).2) (by omega) (hS.lose k G P U (xs (3 + 3 * k + 1)) (xs (3 + 3 * k + 2)) hk1 hI).2
        by_cases h_7 : xs (3 + 3 * k) &&& 31 = 7
        ·
          refine Z_tableIn (pc' := 343) (off := 281) Γ d_W_law_62 h_7 (by decide) (by decide) (by decide) (by decide) ?_
          refine Z_aload_n Γ d_W_law_343 rfl 1 rfl rfl ?_
          refine Z_cC (rest := []) Γ d_W_law_344 (m_I_flight l D cI cZ cB cM u hJu P G ) w380 w381 w382 w1 w383 e_I_flight ⟨by decide, by decide⟩ ⟨rfl, rfl⟩ rfl rfl (Nat.le_of_ble_eq_true rfl) ⟨by decide, by decide⟩ rfl ?_
          refine Z_aload_n Γ d_W_law_347 rfl 2 rfl rfl ?_
          refine Z_cM (rest := [.int (f_I_flight G)]) Γ d_W_law_348 (m_M_flight l D cI cZ cB cM v hJv U ) w659 w660 w661 w9 w662 e_M_flight ⟨by decide, by decide⟩ ⟨rfl, rfl⟩ rfl rfl (Nat.le_of_ble_eq_true rfl) ⟨by decide, by decide⟩ rfl ?_
          refine Z_icmp_eq (tgt := 649) Γ d_W_law_351 (by decide) rfl (fun h9 => ?_) (fun h9 => absurd (hS.flight k G P U (xs (3 + 3 * k + 1)) (xs (3 + 3 * k + 2)) hk1 hI).1 h9)
          refine Z_iinc (v := nI (3 + 3 * (k + 1))) Γ d_W_law_649 3 rfl si3 (by decide) rfl rfl ?_
          refine Z_goto (pc' := 48) Γ d_W_law_652 (by decide) ?_
          refine Z_loc [1, 2, 3, 0] rfl ?_
          exact ih (k + 1) G P U (by omega) (hS.flight k G P U (xs (3 + 3 * k + 1)) (xs (3 + 3 * k + 2)) hk1 hI).2
        by_cases h_8 : xs (3 + 3 * k) &&& 31 = 8
        ·
          refine Z_tableIn (pc' := 356) (off := 294) Γ d_W_law_62 h_8 (by decide) (by decide) (by decide) (by decide) ?_
          refine Z_aload_n Γ d_W_law_356 rfl 1 rfl rfl ?_
          refine Z_aload_n Γ d_W_law_357 rfl 0 rfl rfl ?_
          refine Z_iload_n Γ d_W_law_358 rfl 3 rfl rfl ?_
          refine Z_iconst (v := 1) Γ d_W_law_359 (by decide) rfl ?_
          refine Z_iadd Γ d_W_law_360 rfl ?_
          refine Z_sld Γ d_W_law_361 hX hb0 hbA (sc1 hL h3) (sv1 hL h3) rfl ?_
          refine Z_aload_n Γ d_W_law_362 rfl 0 rfl rfl ?_
          refine Z_iload_n Γ d_W_law_363 rfl 3 rfl rfl ?_
          refine Z_iconst (v := 2) Γ d_W_law_364 (by decide) rfl ?_
          refine Z_iadd Γ d_W_law_365 rfl ?_
          refine Z_sld Γ d_W_law_366 hX hb0 hbA (sc2 hL h3) (sv2 hL h3) rfl ?_
          refine Z_cC (rest := []) Γ d_W_law_367 (m_I_message l D cI cZ cB cM u hJu P G (xs (3 + 3 * k + 1)) (xs (3 + 3 * k + 2)) (inv_P hI) (inv_H hI)) w384 w385 w386 w1 w387 e_I_message ⟨by decide, by decide⟩ ⟨rfl, rfl⟩ rfl rfl (Nat.le_of_ble_eq_true rfl) ⟨by decide, by decide⟩ rfl ?_
          refine Z_aload_n Γ d_W_law_370 rfl 2 rfl rfl ?_
          refine Z_aload_n Γ d_W_law_371 rfl 0 rfl rfl ?_
          refine Z_iload_n Γ d_W_law_372 rfl 3 rfl rfl ?_
          refine Z_iconst (v := 1) Γ d_W_law_373 (by decide) rfl ?_
          refine Z_iadd Γ d_W_law_374 rfl ?_
          refine Z_sld Γ d_W_law_375 hX hb0 hbA (sc1 hL h3) (sv1 hL h3) rfl ?_
          refine Z_aload_n Γ d_W_law_376 rfl 0 rfl rfl ?_
          refine Z_iload_n Γ d_W_law_377 rfl 3 rfl rfl ?_
          refine Z_iconst (v := 2) Γ d_W_law_378 (by decide) rfl ?_
          refine Z_iadd Γ d_W_law_379 rfl ?_
          refine Z_sld Γ d_W_law_380 hX hb0 hbA (sc2 hL h3) (sv2 hL h3) rfl ?_
          refine Z_cM (rest := [.int (f_I_message (xs (3 + 3 * k + 1)) (xs (3 + 3 * k + 2)) G P)]) Γ d_W_law_381 (m_M_message l D cI cZ cB cM v hJv U (xs (3 + 3 * k + 1)) (xs (3 + 3 * k + 2)) (inv_K hI)) w663 w664 w665 w9 w666 e_M_message ⟨by decide, by decide⟩ ⟨rfl, rfl⟩ rfl rfl (Nat.le_of_ble_eq_true rfl) ⟨by decide, by decide⟩ rfl ?_
          refine Z_icmp_eq (tgt := 649) Γ d_W_law_384 (by decide) rfl (fun h9 => ?_) (fun h9 => absurd (hS.message k G P U (xs (3 + 3 * k + 1)) (xs (3 + 3 * k + 2)) hk1 hI).1 h9)
          refine Z_iinc (v := nI (3 + 3 * (k + 1))) Γ d_W_law_649 3 rfl si3 (by decide) rfl rfl ?_
          refine Z_goto (pc' := 48) Γ d_W_law_652 (by decide) ?_
          refine Z_loc [1, 2, 3, 0] rfl ?_
          exact ih (k + 1) G P U (by omega) (hS.message k G P U (xs (3 + 3 * k + 1)) (xs (3 + 3 * k + 2)) hk1 hI).2
        by_cases h_9 : xs (3 + 3 * k) &&& 31 = 9
        ·
          refine Z_tableIn (pc' := 389) (off := 327) Γ d_W_law_62 h_9 (by decide) (by decide) (by decide) (by decide) ?_
          refine Z_aload_n Γ d_W_law_389 rfl 1 rfl rfl ?_
          refine Z_aload_n Γ d_W_law_390 rfl 0 rfl rfl ?_
          refine Z_iload_n Γ d_W_law_391 rfl 3 rfl rfl ?_
          refine Z_iconst (v := 1) Γ d_W_law_392 (by decide) rfl ?_
          refine Z_iadd Γ d_W_law_393 rfl ?_
          refine Z_sld Γ d_W_law_394 hX hb0 hbA (sc1 hL h3) (sv1 hL h3) rfl ?_
          refine Z_cC (rest := []) Γ d_W_law_395 (m_I_review l D cI cZ cB cM u hJu P G (xs (3 + 3 * k + 1))) w393 w394 w395 w1 w396 e_I_review ⟨by decide, by decide⟩ ⟨rfl, rfl⟩ rfl rfl (Nat.le_of_ble_eq_true rfl) ⟨by decide, by decide⟩ rfl ?_
          refine Z_aload_n Γ d_W_law_398 rfl 2 rfl rfl ?_
          refine Z_aload_n Γ d_W_law_399 rfl 0 rfl rfl ?_
          refine Z_iload_n Γ d_W_law_400 rfl 3 rfl rfl ?_
          refine Z_iconst (v := 1) Γ d_W_law_401 (by decide) rfl ?_
          refine Z_iadd Γ d_W_law_402 rfl ?_
          refine Z_sld Γ d_W_law_403 hX hb0 hbA (sc1 hL h3) (sv1 hL h3) rfl ?_
          refine Z_cM (rest := [.int ((f_I_review (xs (3 + 3 * k + 1)) G).1)]) Γ d_W_law_404 (m_M_review l D cI cZ cB cM v hJv U (xs (3 + 3 * k + 1)) (inv_T hI)) w688 w689 w690 w9 w691 e_M_review ⟨by decide, by decide⟩ ⟨rfl, rfl⟩ rfl rfl (Nat.le_of_ble_eq_true rfl) ⟨by decide, by decide⟩ rfl ?_
          refine Z_icmp_eq (tgt := 649) Γ d_W_law_407 (by decide) rfl (fun h9 => ?_) (fun h9 => absurd (hS.review k G P U (xs (3 + 3 * k + 1)) (xs (3 + 3 * k + 2)) hk1 hI).1 h9)
          refine Z_iinc (v := nI (3 + 3 * (k + 1))) Γ d_W_law_649 3 rfl si3 (by decide) rfl rfl ?_
          refine Z_goto (pc' := 48) Γ d_W_law_652 (by decide) ?_
          refine Z_loc [1, 2, 3, 0] rfl ?_
          exact ih (k + 1) ((f_I_review (xs (3 + 3 * k + 1)) G).2) P ((f_M_review (xs (3 + 3 * k + 1)) U).2) (by omega) (hS.review k G P U (xs (3 + 3 * k + 1)) (xs (3 + 3 * k + 2)) hk1 hI).2
        by_cases h_10 : xs (3 + 3 * k) &&& 31 = 10
        ·
          refine Z_tableIn (pc' := 412) (off := 350) Γ d_W_law_62 h_10 (by decide) (by decide) (by decide) (by decide) ?_
          refine Z_aload_n Γ d_W_law_412 rfl 1 rfl rfl ?_
          refine Z_aload_n Γ d_W_law_413 rfl 0 rfl rfl ?_
          refine Z_iload_n Γ d_W_law_414 rfl 3 rfl rfl ?_
          refine Z_iconst (v := 1) Γ d_W_law_415 (by decide) rfl ?_
          refine Z_iadd Γ d_W_law_416 rfl ?_
          refine Z_sld Γ d_W_law_417 hX hb0 hbA (sc1 hL h3) (sv1 hL h3) rfl ?_
          refine Z_cC (rest := []) Γ d_W_law_418 (m_I_learn l D cI cZ cB cM u hJu P G (xs (3 + 3 * k + 1))) w405 w406 w407 w1 w408 e_I_learn ⟨by decide, by decide⟩ ⟨rfl, rfl⟩ rfl rfl (Nat.le_of_ble_eq_true rfl) ⟨by decide, by decide⟩ rfl ?_
          refine Z_aload_n Γ d_W_law_421 rfl 2 rfl rfl ?_
          refine Z_aload_n Γ d_W_law_422 rfl 0 rfl rfl ?_
          refine Z_iload_n Γ d_W_law_423 rfl 3 rfl rfl ?_
          refine Z_iconst (v := 1) Γ d_W_law_424 (by decide) rfl ?_
          refine Z_iadd Γ d_W_law_425 rfl ?_
          refine Z_sld Γ d_W_law_426 hX hb0 hbA (sc1 hL h3) (sv1 hL h3) rfl ?_
          refine Z_cM (rest := [.int ((f_I_learn (xs (3 + 3 * k + 1)) G).1)]) Γ d_W_law_427 (m_M_learn l D cI cZ cB cM v hJv U (xs (3 + 3 * k + 1)) (inv_T hI) (inv_Z hI)) w696 w697 w698 w9 w699 e_M_learn ⟨by decide, by decide⟩ ⟨rfl, rfl⟩ rfl rfl (Nat.le_of_ble_eq_true rfl) ⟨by decide, by decide⟩ rfl ?_
          refine Z_icmp_eq (tgt := 649) Γ d_W_law_430 (by decide) rfl (fun h9 => ?_) (fun h9 => absurd (hS.learn k G P U (xs (3 + 3 * k + 1)) (xs (3 + 3 * k + 2)) hk1 hI).1 h9)
          refine Z_iinc (v := nI (3 + 3 * (k + 1))) Γ d_W_law_649 3 rfl si3 (by decide) rfl rfl ?_
          refine Z_goto (pc' := 48) Γ d_W_law_652 (by decide) ?_
          refine Z_loc [1, 2, 3, 0] rfl ?_
          exact ih (k + 1) ((f_I_learn (xs (3 + 3 * k + 1)) G).2) P ((f_M_learn (xs (3 + 3 * k + 1)) U).2) (by omega) (hS.learn k G P U (xs (3 + 3 * k + 1)) (xs (3 + 3 * k + 2)) hk1 hI).2
        by_cases h_11 : xs (3 + 3 * k) &&& 31 = 11
        ·
          refine Z_tableIn (pc' := 435) (off := 373) Γ d_W_law_62 h_11 (by decide) (by decide) (by decide) (by decide) ?_
          refine Z_aload_n Γ d_W_law_435 rfl 1 rfl rfl ?_
          refine Z_aload_n Γ d_W_law_436 rfl 0 rfl rfl ?_
          refine Z_iload_n Γ d_W_law_437 rfl 3 rfl rfl ?_
          refine Z_iconst (v := 1) Γ d_W_law_438 (by decide) rfl ?_
          refine Z_iadd Γ d_W_law_439 rfl ?_
          refine Z_sld Γ d_W_law_440 hX hb0 hbA (sc1 hL h3) (sv1 hL h3) rfl ?_
          refine Z_cC (rest := []) Γ d_W_law_441 (m_I_crash l D cI cZ cB cM u hJu P G (xs (3 + 3 * k + 1))) w413 w414 w415 w1 w416 e_I_crash ⟨by decide, by decide⟩ ⟨rfl, rfl⟩ rfl rfl (Nat.le_of_ble_eq_true rfl) ⟨by decide, by decide⟩ rfl ?_
          refine Z_aload_n Γ d_W_law_444 rfl 2 rfl rfl ?_
          refine Z_aload_n Γ d_W_law_445 rfl 0 rfl rfl ?_
          refine Z_iload_n Γ d_W_law_446 rfl 3 rfl rfl ?_
          refine Z_iconst (v := 1) Γ d_W_law_447 (by decide) rfl ?_
          refine Z_iadd Γ d_W_law_448 rfl ?_
          refine Z_sld Γ d_W_law_449 hX hb0 hbA (sc1 hL h3) (sv1 hL h3) rfl ?_
          refine Z_cM (rest := [.int ((f_I_crash (xs (3 + 3 * k + 1)) G).1)]) Γ d_W_law_450 (m_M_crash l D cI cZ cB cM v hJv U (xs (3 + 3 * k + 1))) w700 w701 w702 w9 w703 e_M_crash ⟨by decide, by decide⟩ ⟨rfl, rfl⟩ rfl rfl (Nat.le_of_ble_eq_true rfl) ⟨by decide, by decide⟩ rfl ?_
          refine Z_icmp_eq (tgt := 649) Γ d_W_law_453 (by decide) rfl (fun h9 => ?_) (fun h9 => absurd (hS.crash k G P U (xs (3 + 3 * k + 1)) (xs (3 + 3 * k + 2)) hk1 hI).1 h9)
          refine Z_iinc (v := nI (3 + 3 * (k + 1))) Γ d_W_law_649 3 rfl si3 (by decide) rfl rfl ?_
          refine Z_goto (pc' := 48) Γ d_W_law_652 (by decide) ?_
          refine Z_loc [1, 2, 3, 0] rfl ?_
          exact ih (k + 1) ((f_I_crash (xs (3 + 3 * k + 1)) G).2) P ((f_M_crash (xs (3 + 3 * k + 1)) U).2) (by omega) (hS.crash k G P U (xs (3 + 3 * k + 1)) (xs (3 + 3 * k + 2)) hk1 hI).2
        by_cases h_12 : xs (3 + 3 * k) &&& 31 = 12
        ·
          refine Z_tableIn (pc' := 458) (off := 396) Γ d_W_law_62 h_12 (by decide) (by decide) (by decide) (by decide) ?_
          refine Z_aload_n Γ d_W_law_458 rfl 1 rfl rfl ?_
          refine Z_aload_n Γ d_W_law_459 rfl 0 rfl rfl ?_
          refine Z_iload_n Γ d_W_law_460 rfl 3 rfl rfl ?_
          refine Z_iconst (v := 1) Γ d_W_law_461 (by decide) rfl ?_
          refine Z_iadd Γ d_W_law_462 rfl ?_
          refine Z_sld Γ d_W_law_463 hX hb0 hbA (sc1 hL h3) (sv1 hL h3) rfl ?_
          refine Z_cC (rest := []) Γ d_W_law_464 (m_I_restart l D cI cZ cB cM u hJu P G (xs (3 + 3 * k + 1))) w421 w422 w423 w1 w424 e_I_restart ⟨by decide, by decide⟩ ⟨rfl, rfl⟩ rfl rfl (Nat.le_of_ble_eq_true rfl) ⟨by decide, by decide⟩ rfl ?_
          refine Z_aload_n Γ d_W_law_467 rfl 2 rfl rfl ?_
          refine Z_aload_n Γ d_W_law_468 rfl 0 rfl rfl ?_
          refine Z_iload_n Γ d_W_law_469 rfl 3 rfl rfl ?_
          refine Z_iconst (v := 1) Γ d_W_law_470 (by decide) rfl ?_
          refine Z_iadd Γ d_W_law_471 rfl ?_
          refine Z_sld Γ d_W_law_472 hX hb0 hbA (sc1 hL h3) (sv1 hL h3) rfl ?_
          refine Z_cM (rest := [.int ((f_I_restart (xs (3 + 3 * k + 1)) G).1)]) Γ d_W_law_473 (m_M_restart l D cI cZ cB cM v hJv U (xs (3 + 3 * k + 1))) w704 w705 w706 w9 w707 e_M_restart ⟨by decide, by decide⟩ ⟨rfl, rfl⟩ rfl rfl (Nat.le_of_ble_eq_true rfl) ⟨by decide, by decide⟩ rfl ?_
          refine Z_icmp_eq (tgt := 649) Γ d_W_law_476 (by decide) rfl (fun h9 => ?_) (fun h9 => absurd (hS.restart k G P U (xs (3 + 3 * k + 1)) (xs (3 + 3 * k + 2)) hk1 hI).1 h9)
          refine Z_iinc (v := nI (3 + 3 * (k + 1))) Γ d_W_law_649 3 rfl si3 (by decide) rfl rfl ?_
          refine Z_goto (pc' := 48) Γ d_W_law_652 (by decide) ?_
          refine Z_loc [1, 2, 3, 0] rfl ?_
          exact ih (k + 1) ((f_I_restart (xs (3 + 3 * k + 1)) G).2) P ((f_M_restart (xs (3 + 3 * k + 1)) U).2) (by omega) (hS.restart k G P U (xs (3 + 3 * k + 1)) (xs (3 + 3 * k + 2)) hk1 hI).2
        by_cases h_13 : xs (3 + 3 * k) &&& 31 = 13
        ·
          refine Z_tableIn (pc' := 481) (off := 419) Γ d_W_law_62 h_13 (by decide) (by decide) (by decide) (by decide) ?_
          refine Z_aload_n Γ d_W_law_481 rfl 1 rfl rfl ?_
          refine Z_aload_n Γ d_W_law_482 rfl 0 rfl rfl ?_
          refine Z_iload_n Γ d_W_law_483 rfl 3 rfl rfl ?_
          refine Z_iconst (v := 1) Γ d_W_law_484 (by decide) rfl ?_
          refine Z_iadd Γ d_W_law_485 rfl ?_
          refine Z_sld Γ d_W_law_486 hX hb0 hbA (sc1 hL h3) (sv1 hL h3) rfl ?_
          refine Z_cC (rest := []) Γ d_W_law_487 (m_I_govern l D cI cZ cB cM u hJu P G (xs (3 + 3 * k + 1))) w425 w426 w427 w1 w428 e_I_govern ⟨by decide, by decide⟩ ⟨rfl, rfl⟩ rfl rfl (Nat.le_of_ble_eq_true rfl) ⟨by decide, by decide⟩ rfl ?_
          refine Z_aload_n Γ d_W_law_490 rfl 2 rfl rfl ?_
          refine Z_aload_n Γ d_W_law_491 rfl 0 rfl rfl ?_
          refine Z_iload_n Γ d_W_law_492 rfl 3 rfl rfl ?_
          refine Z_iconst (v := 1) Γ d_W_law_493 (by decide) rfl ?_
          refine Z_iadd Γ d_W_law_494 rfl ?_
          refine Z_sld Γ d_W_law_495 hX hb0 hbA (sc1 hL h3) (sv1 hL h3) rfl ?_
          refine Z_cM (rest := [.int ((f_I_govern (xs (3 + 3 * k + 1)) G).1)]) Γ d_W_law_496 (m_M_govern l D cI cZ cB cM v hJv U (xs (3 + 3 * k + 1)) (inv_L hI)) w708 w709 w710 w9 w711 e_M_govern ⟨by decide, by decide⟩ ⟨rfl, rfl⟩ rfl rfl (Nat.le_of_ble_eq_true rfl) ⟨by decide, by decide⟩ rfl ?_
          refine Z_icmp_eq (tgt := 649) Γ d_W_law_499 (by decide) rfl (fun h9 => ?_) (fun h9 => absurd (hS.govern k G P U (xs (3 + 3 * k + 1)) (xs (3 + 3 * k + 2)) hk1 hI).1 h9)
          refine Z_iinc (v := nI (3 + 3 * (k + 1))) Γ d_W_law_649 3 rfl si3 (by decide) rfl rfl ?_
          refine Z_goto (pc' := 48) Γ d_W_law_652 (by decide) ?_
          refine Z_loc [1, 2, 3, 0] rfl ?_
          exact ih (k + 1) ((f_I_govern (xs (3 + 3 * k + 1)) G).2) P ((f_M_govern (xs (3 + 3 * k + 1)) U).2) (by omega) (hS.govern k G P U (xs (3 + 3 * k + 1)) (xs (3 + 3 * k + 2)) hk1 hI).2
        by_cases h_14 : xs (3 + 3 * k) &&& 31 = 14
        ·
          refine Z_tableIn (pc' := 504) (off := 442) Γ d_W_law_62 h_14 (by decide) (by decide) (by decide) (by decide) ?_
          refine Z_aload_n Γ d_W_law_504 rfl 1 rfl rfl ?_
          refine Z_aload_n Γ d_W_law_505 rfl 0 rfl rfl ?_
          refine Z_iload_n Γ d_W_law_506 rfl 3 rfl rfl ?_
          refine Z_iconst (v := 1) Γ d_W_law_507 (by decide) rfl ?_
          refine Z_iadd Γ d_W_law_508 rfl ?_
          refine Z_sld Γ d_W_law_509 hX hb0 hbA (sc1 hL h3) (sv1 hL h3) rfl ?_
          refine Z_cC (rest := []) Γ d_W_law_510 (m_I_tick l D cI cZ cB cM u hJu P G (xs (3 + 3 * k + 1))) w442 w443 w444 w1 w445 e_I_tick ⟨by decide, by decide⟩ ⟨rfl, rfl⟩ rfl rfl (Nat.le_of_ble_eq_true rfl) ⟨by decide, by decide⟩ rfl ?_
          refine Z_aload_n Γ d_W_law_513 rfl 2 rfl rfl ?_
          refine Z_aload_n Γ d_W_law_514 rfl 0 rfl rfl ?_
          refine Z_iload_n Γ d_W_law_515 rfl 3 rfl rfl ?_
          refine Z_iconst (v := 1) Γ d_W_law_516 (by decide) rfl ?_
          refine Z_iadd Γ d_W_law_517 rfl ?_
          refine Z_sld Γ d_W_law_518 hX hb0 hbA (sc1 hL h3) (sv1 hL h3) rfl ?_
          refine Z_cM (rest := [.int ((f_I_tick (xs (3 + 3 * k + 1)) G).1)]) Γ d_W_law_519 (m_M_tick l D cI cZ cB cM v hJv U (xs (3 + 3 * k + 1))) w716 w717 w718 w9 w719 e_M_tick ⟨by decide, by decide⟩ ⟨rfl, rfl⟩ rfl rfl (Nat.le_of_ble_eq_true rfl) ⟨by decide, by decide⟩ rfl ?_
          refine Z_icmp_eq (tgt := 649) Γ d_W_law_522 (by decide) rfl (fun h9 => ?_) (fun h9 => absurd (hS.tick k G P U (xs (3 + 3 * k + 1)) (xs (3 + 3 * k + 2)) hk1 hI).1 h9)
          refine Z_iinc (v := nI (3 + 3 * (k + 1))) Γ d_W_law_649 3 rfl si3 (by decide) rfl rfl ?_
          refine Z_goto (pc' := 48) Γ d_W_law_652 (by decide) ?_
          refine Z_loc [1, 2, 3, 0] rfl ?_
          exact ih (k + 1) ((f_I_tick (xs (3 + 3 * k + 1)) G).2) P ((f_M_tick (xs (3 + 3 * k + 1)) U).2) (by omega) (hS.tick k G P U (xs (3 + 3 * k + 1)) (xs (3 + 3 * k + 2)) hk1 hI).2
        by_cases h_15 : xs (3 + 3 * k) &&& 31 = 15
        ·
          refine Z_tableIn (pc' := 527) (off := 465) Γ d_W_law_62 h_15 (by decide) (by decide) (by decide) (by decide) ?_
          refine Z_aload_n Γ d_W_law_527 rfl 1 rfl rfl ?_
          refine Z_aload_n Γ d_W_law_528 rfl 0 rfl rfl ?_
          refine Z_iload_n Γ d_W_law_529 rfl 3 rfl rfl ?_
          refine Z_iconst (v := 1) Γ d_W_law_530 (by decide) rfl ?_
          refine Z_iadd Γ d_W_law_531 rfl ?_
          refine Z_sld Γ d_W_law_532 hX hb0 hbA (sc1 hL h3) (sv1 hL h3) rfl ?_
          refine Z_cC (rest := []) Γ d_W_law_533 (m_I_controller l D cI cZ cB cM u hJu P G (xs (3 + 3 * k + 1))) w446 w447 w448 w1 w449 e_I_controller ⟨by decide, by decide⟩ ⟨rfl, rfl⟩ rfl rfl (Nat.le_of_ble_eq_true rfl) ⟨by decide, by decide⟩ rfl ?_
          refine Z_aload_n Γ d_W_law_536 rfl 2 rfl rfl ?_
          refine Z_aload_n Γ d_W_law_537 rfl 0 rfl rfl ?_
          refine Z_iload_n Γ d_W_law_538 rfl 3 rfl rfl ?_
          refine Z_iconst (v := 1) Γ d_W_law_539 (by decide) rfl ?_
          refine Z_iadd Γ d_W_law_540 rfl ?_
          refine Z_sld Γ d_W_law_541 hX hb0 hbA (sc1 hL h3) (sv1 hL h3) rfl ?_
          refine Z_cM (rest := [.int (f_I_controller (xs (3 + 3 * k + 1)) G)]) Γ d_W_law_542 (m_M_controller l D cI cZ cB cM v hJv U (xs (3 + 3 * k + 1))) w720 w721 w722 w9 w723 e_M_controller ⟨by decide, by decide⟩ ⟨rfl, rfl⟩ rfl rfl (Nat.le_of_ble_eq_true rfl) ⟨by decide, by decide⟩ rfl ?_
          refine Z_icmp_eq (tgt := 649) Γ d_W_law_545 (by decide) rfl (fun h9 => ?_) (fun h9 => absurd (hS.controller k G P U (xs (3 + 3 * k + 1)) (xs (3 + 3 * k + 2)) hk1 hI).1 h9)
          refine Z_iinc (v := nI (3 + 3 * (k + 1))) Γ d_W_law_649 3 rfl si3 (by decide) rfl rfl ?_
          refine Z_goto (pc' := 48) Γ d_W_law_652 (by decide) ?_
          refine Z_loc [1, 2, 3, 0] rfl ?_
          exact ih (k + 1) G P U (by omega) (hS.controller k G P U (xs (3 + 3 * k + 1)) (xs (3 + 3 * k + 2)) hk1 hI).2
        by_cases h_16 : xs (3 + 3 * k) &&& 31 = 16
        ·
          refine Z_tableIn (pc' := 550) (off := 488) Γ d_W_law_62 h_16 (by decide) (by decide) (by decide) (by decide) ?_
          refine Z_aload_n Γ d_W_law_550 rfl 1 rfl rfl ?_
          refine Z_aload_n Γ d_W_law_551 rfl 0 rfl rfl ?_
          refine Z_iload_n Γ d_W_law_552 rfl 3 rfl rfl ?_
          refine Z_iconst (v := 1) Γ d_W_law_553 (by decide) rfl ?_
          refine Z_iadd Γ d_W_law_554 rfl ?_
          refine Z_sld Γ d_W_law_555 hX hb0 hbA (sc1 hL h3) (sv1 hL h3) rfl ?_
          refine Z_aload_n Γ d_W_law_556 rfl 0 rfl rfl ?_
          refine Z_iload_n Γ d_W_law_557 rfl 3 rfl rfl ?_
          refine Z_iconst (v := 2) Γ d_W_law_558 (by decide) rfl ?_
          refine Z_iadd Γ d_W_law_559 rfl ?_
          refine Z_sld Γ d_W_law_560 hX hb0 hbA (sc2 hL h3) (sv2 hL h3) rfl ?_
          refine Z_cC (rest := []) Γ d_W_law_561 (m_I_broker l D cI cZ cB cM u hJu P G (xs (3 + 3 * k + 1)) (xs (3 + 3 * k + 2))) w450 w451 w452 w1 w453 e_I_broker ⟨by decide, by decide⟩ ⟨rfl, rfl⟩ rfl rfl (Nat.le_of_ble_eq_true rfl) ⟨by decide, by decide⟩ rfl ?_
          refine Z_aload_n Γ d_W_law_564 rfl 2 rfl rfl ?_
          refine Z_aload_n Γ d_W_law_565 rfl 0 rfl rfl ?_
          refine Z_iload_n Γ d_W_law_566 rfl 3 rfl rfl ?_
          refine Z_iconst (v := 1) Γ d_W_law_567 (by decide) rfl ?_
          refine Z_iadd Γ d_W_law_568 rfl ?_
          refine Z_sld Γ d_W_law_569 hX hb0 hbA (sc1 hL h3) (sv1 hL h3) rfl ?_
          refine Z_aload_n Γ d_W_law_570 rfl 0 rfl rfl ?_
          refine Z_iload_n Γ d_W_law_571 rfl 3 rfl rfl ?_
          refine Z_iconst (v := 2) Γ d_W_law_572 (by decide) rfl ?_
          refine Z_iadd Γ d_W_law_573 rfl ?_
          refine Z_sld Γ d_W_law_574 hX hb0 hbA (sc2 hL h3) (sv2 hL h3) rfl ?_
          refine Z_cM (rest := [.int (f_I_broker (xs (3 + 3 * k + 1)) (xs (3 + 3 * k + 2)) G)]) Γ d_W_law_575 (m_M_broker l D cI cZ cB cM v hJv U (xs (3 + 3 * k + 1)) (xs (3 + 3 * k + 2)) (inv_T hI)) w724 w725 w726 w9 w727 e_M_broker ⟨by decide, by decide⟩ ⟨rfl, rfl⟩ rfl rfl (Nat.le_of_ble_eq_true rfl) ⟨by decide, by decide⟩ rfl ?_
          refine Z_icmp_eq (tgt := 649) Γ d_W_law_578 (by decide) rfl (fun h9 => ?_) (fun h9 => absurd (hS.broker k G P U (xs (3 + 3 * k + 1)) (xs (3 + 3 * k + 2)) hk1 hI).1 h9)
          refine Z_iinc (v := nI (3 + 3 * (k + 1))) Γ d_W_law_649 3 rfl si3 (by decide) rfl rfl ?_
          refine Z_goto (pc' := 48) Γ d_W_law_652 (by decide) ?_
          refine Z_loc [1, 2, 3, 0] rfl ?_
          exact ih (k + 1) G P U (by omega) (hS.broker k G P U (xs (3 + 3 * k + 1)) (xs (3 + 3 * k + 2)) hk1 hI).2
        by_cases h_17 : xs (3 + 3 * k) &&& 31 = 17
        ·
          refine Z_tableIn (pc' := 583) (off := 521) Γ d_W_law_62 h_17 (by decide) (by decide) (by decide) (by decide) ?_
          refine Z_aload_n Γ d_W_law_583 rfl 1 rfl rfl ?_
          refine Z_aload_n Γ d_W_law_584 rfl 0 rfl rfl ?_
          refine Z_iload_n Γ d_W_law_585 rfl 3 rfl rfl ?_
          refine Z_iconst (v := 1) Γ d_W_law_586 (by decide) rfl ?_
          refine Z_iadd Γ d_W_law_587 rfl ?_
          refine Z_sld Γ d_W_law_588 hX hb0 hbA (sc1 hL h3) (sv1 hL h3) rfl ?_
          refine Z_aload_n Γ d_W_law_589 rfl 0 rfl rfl ?_
          refine Z_iload_n Γ d_W_law_590 rfl 3 rfl rfl ?_
          refine Z_iconst (v := 2) Γ d_W_law_591 (by decide) rfl ?_
          refine Z_iadd Γ d_W_law_592 rfl ?_
          refine Z_sld Γ d_W_law_593 hX hb0 hbA (sc2 hL h3) (sv2 hL h3) rfl ?_
          refine Z_cC (rest := []) Γ d_W_law_594 (m_I_epochAt l D cI cZ cB cM u hJu P G (xs (3 + 3 * k + 1)) (xs (3 + 3 * k + 2)) (inv_E hI)) w458 w459 w460 w1 w461 e_I_epochAt ⟨by decide, by decide⟩ ⟨rfl, rfl⟩ rfl rfl (Nat.le_of_ble_eq_true rfl) ⟨by decide, by decide⟩ rfl ?_
          refine Z_aload_n Γ d_W_law_597 rfl 2 rfl rfl ?_
          refine Z_aload_n Γ d_W_law_598 rfl 0 rfl rfl ?_
          refine Z_iload_n Γ d_W_law_599 rfl 3 rfl rfl ?_
          refine Z_iconst (v := 1) Γ d_W_law_600 (by decide) rfl ?_
          refine Z_iadd Γ d_W_law_601 rfl ?_
          refine Z_sld Γ d_W_law_602 hX hb0 hbA (sc1 hL h3) (sv1 hL h3) rfl ?_
          refine Z_aload_n Γ d_W_law_603 rfl 0 rfl rfl ?_
          refine Z_iload_n Γ d_W_law_604 rfl 3 rfl rfl ?_
          refine Z_iconst (v := 2) Γ d_W_law_605 (by decide) rfl ?_
          refine Z_iadd Γ d_W_law_606 rfl ?_
          refine Z_sld Γ d_W_law_607 hX hb0 hbA (sc2 hL h3) (sv2 hL h3) rfl ?_
          refine Z_cM (rest := [.int (f_I_epochAt (xs (3 + 3 * k + 1)) (xs (3 + 3 * k + 2)) G)]) Γ d_W_law_608 (m_M_epochAt l D cI cZ cB cM v hJv U (xs (3 + 3 * k + 1)) (xs (3 + 3 * k + 2)) (inv_T hI)) w627 w628 w629 w9 w630 e_M_epochAt ⟨by decide, by decide⟩ ⟨rfl, rfl⟩ rfl rfl (Nat.le_of_ble_eq_true rfl) ⟨by decide, by decide⟩ rfl ?_
          refine Z_icmp_eq (tgt := 649) Γ d_W_law_611 (by decide) rfl (fun h9 => ?_) (fun h9 => absurd (hS.epochAt k G P U (xs (3 + 3 * k + 1)) (xs (3 + 3 * k + 2)) hk1 hI).1 h9)
          refine Z_iinc (v := nI (3 + 3 * (k + 1))) Γ d_W_law_649 3 rfl si3 (by decide) rfl rfl ?_
          refine Z_goto (pc' := 48) Γ d_W_law_652 (by decide) ?_
          refine Z_loc [1, 2, 3, 0] rfl ?_
          exact ih (k + 1) G P U (by omega) (hS.epochAt k G P U (xs (3 + 3 * k + 1)) (xs (3 + 3 * k + 2)) hk1 hI).2
        by_cases h_18 : xs (3 + 3 * k) &&& 31 = 18
        ·
          refine Z_tableIn (pc' := 616) (off := 554) Γ d_W_law_62 h_18 (by decide) (by decide) (by decide) (by decide) ?_
          refine Z_aload_n Γ d_W_law_616 rfl 1 rfl rfl ?_
          refine Z_aload_n Γ d_W_law_617 rfl 0 rfl rfl ?_
          refine Z_iload_n Γ d_W_law_618 rfl 3 rfl rfl ?_
          refine Z_iconst (v := 1) Γ d_W_law_619 (by decide) rfl ?_
          refine Z_iadd Γ d_W_law_620 rfl ?_
          refine Z_sld Γ d_W_law_621 hX hb0 hbA (sc1 hL h3) (sv1 hL h3) rfl ?_
          refine Z_aload_n Γ d_W_law_622 rfl 0 rfl rfl ?_
          refine Z_iload_n Γ d_W_law_623 rfl 3 rfl rfl ?_
          refine Z_iconst (v := 2) Γ d_W_law_624 (by decide) rfl ?_
          refine Z_iadd Γ d_W_law_625 rfl ?_
          refine Z_sld Γ d_W_law_626 hX hb0 hbA (sc2 hL h3) (sv2 hL h3) rfl ?_
          refine Z_cC (rest := []) Γ d_W_law_627 (m_I_valueAt l D cI cZ cB cM u hJu P G (xs (3 + 3 * k + 1)) (xs (3 + 3 * k + 2)) (inv_E hI)) w463 w464 w465 w1 w466 e_I_valueAt ⟨by decide, by decide⟩ ⟨rfl, rfl⟩ rfl rfl (Nat.le_of_ble_eq_true rfl) ⟨by decide, by decide⟩ rfl ?_
          refine Z_aload_n Γ d_W_law_630 rfl 2 rfl rfl ?_
          refine Z_aload_n Γ d_W_law_631 rfl 0 rfl rfl ?_
          refine Z_iload_n Γ d_W_law_632 rfl 3 rfl rfl ?_
          refine Z_iconst (v := 1) Γ d_W_law_633 (by decide) rfl ?_
          refine Z_iadd Γ d_W_law_634 rfl ?_
          refine Z_sld Γ d_W_law_635 hX hb0 hbA (sc1 hL h3) (sv1 hL h3) rfl ?_
          refine Z_aload_n Γ d_W_law_636 rfl 0 rfl rfl ?_
          refine Z_iload_n Γ d_W_law_637 rfl 3 rfl rfl ?_
          refine Z_iconst (v := 2) Γ d_W_law_638 (by decide) rfl ?_
          refine Z_iadd Γ d_W_law_639 rfl ?_
          refine Z_sld Γ d_W_law_640 hX hb0 hbA (sc2 hL h3) (sv2 hL h3) rfl ?_
          refine Z_cM (rest := [.int (f_I_valueAt (xs (3 + 3 * k + 1)) (xs (3 + 3 * k + 2)) G)]) Γ d_W_law_641 (m_M_valueAt l D cI cZ cB cM v hJv U (xs (3 + 3 * k + 1)) (xs (3 + 3 * k + 2)) (inv_T hI)) w631 w632 w633 w9 w634 e_M_valueAt ⟨by decide, by decide⟩ ⟨rfl, rfl⟩ rfl rfl (Nat.le_of_ble_eq_true rfl) ⟨by decide, by decide⟩ rfl ?_
          refine Z_icmp_eq (tgt := 649) Γ d_W_law_644 (by decide) rfl (fun h9 => ?_) (fun h9 => absurd (hS.valueAt k G P U (xs (3 + 3 * k + 1)) (xs (3 + 3 * k + 2)) hk1 hI).1 h9)
          refine Z_iinc (v := nI (3 + 3 * (k + 1))) Γ d_W_law_649 3 rfl si3 (by decide) rfl rfl ?_
          refine Z_goto (pc' := 48) Γ d_W_law_652 (by decide) ?_
          refine Z_loc [1, 2, 3, 0] rfl ?_
          exact ih (k + 1) G P U (by omega) (hS.valueAt k G P U (xs (3 + 3 * k + 1)) (xs (3 + 3 * k + 2)) hk1 hI).2
        refine Z_tableOut (pc' := 649) Γ d_W_law_62 (tb_0_18 h_0 h_1 h_2 h_3 h_4 h_5 h_6 h_7 h_8 h_9 h_10 h_11 h_12 h_13 h_14 h_15 h_16 h_17 h_18) (by decide) ?_
        refine Z_iinc (v := nI (3 + 3 * (k + 1))) Γ d_W_law_649 3 rfl si3 (by decide) rfl rfl ?_
        refine Z_goto (pc' := 48) Γ d_W_law_652 (by decide) ?_
        refine Z_loc [1, 2, 3, 0] rfl ?_
        exact ih (k + 1) G P U (by omega) (Inv_same hk1 hI)
  refine Z_loc [3, 2, 1, 0] rfl ?_
  exact J 512 0 _ _ _ (by omega) (inv_0 _ _ _)
