/-! deliver of the reference: the message is copied into row 26, then taken out. -/
theorem rm_4 {x1 : Int32} {G : Nat → Nat → Int32} {i : Nat} (h0 : i ≠ 0) (h : i < 18 ∨ 25 < i) : ∀ (k : Nat) (v : Int32) (Gv : Nat → Nat → Int32), f_M_remove_4 x1 G k v Gv i = Gv i := by
  intro k
  induction k with
  | zero => intro v Gv; rfl
  | succ k ih =>
    intro v Gv
    rw [f_M_remove_4]
    split
    · rw [g2_ne _ _ _ h0]
    · rw [ih, move_rows h]
theorem remove_rows {x1 : Int32} {G : Nat → Nat → Int32} {i : Nat} (h0 : i ≠ 0) (h : i < 18 ∨ 25 < i) : f_M_remove x1 G i = G i := rm_4 h0 h 10 (x1 + 1) G
theorem rm_40 {x1 : Int32} {G : Nat → Nat → Int32} {j : Nat} (h : j ≠ 24) : ∀ (k : Nat) (v : Int32) (Gv : Nat → Nat → Int32), f_M_remove_4 x1 G k v Gv 0 j = Gv 0 j := by
  intro k
  induction k with
  | zero => intro v Gv; rfl
  | succ k ih =>
    intro v Gv
    rw [f_M_remove_4]
    split
    · rw [g2_k _ _ _ h]
    · rw [ih, move_rows (by omega)]
theorem remove_0 {x1 : Int32} {G : Nat → Nat → Int32} {j : Nat} (h : j ≠ 24) : f_M_remove x1 G 0 j = G 0 j := rm_40 h 10 (x1 + 1) G
theorem rm_c {x1 : Int32} {G : Nat → Nat → Int32} (hc : okK G) : ∀ (k : Nat) (v : Int32) (Gv : Nat → Nat → Int32), (9 - v.toInt < (k : Int) ∧ 1 ≤ v.toInt ∧ v.toInt ≤ 8 ∧ Gv 0 24 = G 0 24) → f_M_remove_4 x1 G k v Gv 0 24 = G 0 24 - 1 := by
  intro k
  induction k with
  | zero => intro v Gv h; exact absurd h (fun h => by omega)
  | succ k ih =>
    intro v Gv hI
    rw [f_M_remove_4]
    by_cases h : Gv 0 24 ≤ v
    · rw [if_pos h, g2_at, hI.2.2.2]
    · rw [if_neg h]
      exact ih _ _ (rm_step hc hI h)
theorem remove_c {x1 : Int32} {G : Nat → Nat → Int32} (hc : okK G) (hi : 0 ≤ x1.toInt ∧ x1.toInt < (G 0 24).toInt) : f_M_remove x1 G 0 24 = G 0 24 - 1 := rm_c hc 10 (x1 + 1) G (rm_init hc hi)
/-- the words that lie in row 26 so far -/
def dv (x1 : Int32) (G : Nat → Nat → Int32) (v : Int32) (Gv : Nat → Nat → Int32) : Prop := (∀ r : Nat, r ≠ 26 → Gv r = G r) ∧ ∀ w : Nat, (w : Int) < v.toInt → Gv 26 w = f_M_message x1 (nI w) G
theorem dv_init {x1 : Int32} {G : Nat → Nat → Int32} : dv x1 G 0 G := ⟨fun _ _ => rfl, fun w h => by rw [i0] at h; omega⟩
theorem msg_same {x1 x2 : Int32} {G Gv : Nat → Nat → Int32} (h : ∀ r : Nat, r ≠ 26 → Gv r = G r) : f_M_message x1 x2 Gv = f_M_message x1 x2 G := by
  unfold f_M_message f_M_isMessage
  rw [h 0 (by decide), h 18 (by decide), h 19 (by decide), h 20 (by decide), h 21 (by decide), h 22 (by decide), h 23 (by decide), h 24 (by decide)]
theorem dv_step {x1 v : Int32} {G Gv : Nat → Nat → Int32} (hv : vp_in v 7) (h : dv x1 G v Gv) : dv x1 G (v + 1) (g2 Gv 26 v.toNatClampNeg (f_M_message x1 v Gv)) := by
  obtain ⟨j, hj, rfl⟩ := vp_in_of hv (by decide)
  refine ⟨fun r hr => by rw [g2_ne _ _ _ hr]; exact h.1 r hr, fun w hw => ?_⟩
  rw [nI_1, nI_toInt (by omega)] at hw
  rw [nI_clamp (by omega)]
  by_cases q : w = j
  · subst q
    rw [g2_at, msg_same h.1]
  · rw [g2_k _ _ _ q]
    exact h.2 w (by rw [nI_toInt (by omega)]; omega)
theorem dv_okK {x1 v : Int32} {G Gv : Nat → Nat → Int32} (hc : okK G) (h : dv x1 G v Gv) : okK Gv := by
  unfold okK
  rw [h.1 0 (by decide)]
  exact hc
theorem dv_okK2 {x1 v z : Int32} {G Gv : Nat → Nat → Int32} (hc : okK G) (h : dv x1 G v Gv) : okK (g2 Gv 26 7 z) := by
  have h1 : okK Gv := dv_okK hc h
  unfold okK
  rw [g2_ne _ _ _ (by decide)]
  exact h1
theorem dv_rm {x1 v z : Int32} {G Gv : Nat → Nat → Int32} (_hc : okK G) (h5 : ¬ f_M_isMessage x1 G = 0) (h : dv x1 G v Gv) : 0 ≤ x1.toInt ∧ x1.toInt < (g2 Gv 26 7 z 0 24).toInt := by
  rw [g2_ne _ _ _ (by decide), h.1 0 (by decide)]
  exact im_lt h5
/-- behind the removal: the message's words and its load lie in row 26, all else but the channel is as it was -/
def dv2 (x1 : Int32) (G Gv : Nat → Nat → Int32) : Prop := (∀ r : Nat, r ≠ 0 → r < 18 → Gv r = G r) ∧ (∀ j : Nat, j ≠ 24 → Gv 0 j = G 0 j) ∧ Gv 0 24 = G 0 24 - 1 ∧ (∀ w : Nat, w < 7 → Gv 26 w = f_M_message x1 (nI w) G) ∧ Gv 26 7 = G 25 x1.toNatClampNeg
theorem dv2_of {x1 v : Int32} {k : Nat} {G Gv : Nat → Nat → Int32} (hc : okK G) (h5 : ¬ f_M_isMessage x1 G = 0) (hI : 0 < k + 1 ∧ k + 1 ≤ 8 ∧ v = nI (8 - (k + 1)) ∧ dv x1 G v Gv) (h15 : 7 ≤ v) : dv2 x1 G (f_M_remove x1 (g2 Gv 26 7 (Gv 25 x1.toNatClampNeg))) := by
  obtain ⟨_, hk, hv, hd⟩ := hI
  have hv7 : v.toInt = 7 := by
    rw [i_le, show (7 : Int32).toInt = 7 by decide, hv, nI_toInt (by omega)] at h15
    rw [hv, nI_toInt (by omega)]
    omega
  refine ⟨fun r h0 hr => ?_, fun j hj => ?_, ?_, fun w hw => ?_, ?_⟩
  · rw [remove_rows h0 (by omega), g2_ne _ _ _ (by omega), hd.1 r (by omega)]
  · rw [remove_0 hj, g2_ne _ _ _ (by decide), hd.1 0 (by decide)]
  · rw [remove_c (dv_okK2 hc hd) (dv_rm hc h5 hd), g2_ne _ _ _ (by decide), hd.1 0 (by decide)]
  · rw [remove_rows (by decide) (by decide), g2_k _ _ _ (by omega), hd.2 w (by omega)]
  · rw [remove_rows (by decide) (by decide), g2_at, hd.1 25 (by decide)]
/-- the messages' numbers are in range -/
def okQ (G : Nat → Nat → Int32) : Prop := ∀ i : Nat, i < 8 → vp_in (G 20 i) 4 ∧ vp_in (G 19 i) 4 ∧ (0 ≤ (G 23 i).toInt ∧ (G 23 i).toInt ≤ 100) ∧ vp_in (G 25 i) 520
theorem msg_1 {x1 : Int32} {G : Nat → Nat → Int32} (h5 : ¬ f_M_isMessage x1 G = 0) : f_M_message x1 1 G = G 19 x1.toNatClampNeg := by
  unfold f_M_message
  rw [if_neg h5]
  rfl
theorem msg_2 {x1 : Int32} {G : Nat → Nat → Int32} (h5 : ¬ f_M_isMessage x1 G = 0) : f_M_message x1 2 G = G 20 x1.toNatClampNeg := by
  unfold f_M_message
  rw [if_neg h5]
  rfl
theorem msg_5 {x1 : Int32} {G : Nat → Nat → Int32} (h5 : ¬ f_M_isMessage x1 G = 0) : f_M_message x1 5 G = G 23 x1.toNatClampNeg := by
  unfold f_M_message
  rw [if_neg h5]
  rfl
theorem dv_b {x1 : Int32} {G Gv : Nat → Nat → Int32} (h : dv2 x1 G Gv) (hM : okQ G) (hc : okK G) (h5 : ¬ f_M_isMessage x1 G = 0) : vp_in (Gv 26 2) 4 := by
  rw [h.2.2.2.1 2 (by decide), show nI 2 = 2 by decide, msg_2 h5]
  exact (hM _ (vp_lt (im_in8 hc h5))).1
theorem dv_f {x1 : Int32} {G Gv : Nat → Nat → Int32} (h : dv2 x1 G Gv) (hM : okQ G) (hc : okK G) (h5 : ¬ f_M_isMessage x1 G = 0) : vp_in (Gv 26 1) 4 := by
  rw [h.2.2.2.1 1 (by decide), show nI 1 = 1 by decide, msg_1 h5]
  exact (hM _ (vp_lt (im_in8 hc h5))).2.1
theorem dv_n {x1 : Int32} {G Gv : Nat → Nat → Int32} (h : dv2 x1 G Gv) (hM : okQ G) (hc : okK G) (h5 : ¬ f_M_isMessage x1 G = 0) : 0 ≤ (Gv 26 5).toInt ∧ (Gv 26 5).toInt ≤ 100 := by
  rw [h.2.2.2.1 5 (by decide), show nI 5 = 5 by decide, msg_5 h5]
  exact (hM _ (vp_lt (im_in8 hc h5))).2.2.1
theorem dv_okT {x1 : Int32} {G Gv : Nat → Nat → Int32} (h : dv2 x1 G Gv) (hT : okT G) : okT Gv := okT_of3 hT ⟨h.1 7 (by decide) (by decide), h.1 2 (by decide) (by decide), h.1 3 (by decide) (by decide)⟩
theorem dv_okK3 {x1 : Int32} {G Gv : Nat → Nat → Int32} (h : dv2 x1 G Gv) (hc : okK G) (h5 : ¬ f_M_isMessage x1 G = 0) : okK Gv := by
  have h1 := im_lt h5
  have h2 := hc
  unfold okK at h2 ⊢
  rw [h.2.2.1, i_sub (by rw [i1]; omega) (by rw [i1]; omega), i1]
  omega
theorem dv_B {x1 : Int32} {G Gv : Nat → Nat → Int32} (h : dv2 x1 G Gv) (hB : 1 ≤ (G 0 1).toInt ∧ (G 0 1).toInt ≤ 3) : 1 ≤ (Gv 0 1).toInt ∧ (Gv 0 1).toInt ≤ 3 := by
  rw [h.2.1 1 (by decide)]
  exact hB
theorem dv_D {x1 : Int32} {G Gv : Nat → Nat → Int32} (h : dv2 x1 G Gv) (hD : ∀ x : Nat, x < 520 → 0 ≤ (G 3 x).toInt) : ∀ x : Nat, x < 520 → 0 ≤ (Gv 3 x).toInt := by
  rw [h.1 3 (by decide) (by decide)]
  exact hD
theorem dv_w {x1 : Int32} {G Gv Gw : Nat → Nat → Int32} (h : dv2 x1 G Gv) (e : Gw 26 = Gv 26) (hM : okQ G) (hc : okK G) (h5 : ¬ f_M_isMessage x1 G = 0) {j : Nat} {z : Int32} : 0 ≤ (g2 Gw 13 j z 26 5).toInt := by
  rw [g2_ne _ _ _ (by decide), e]
  exact (dv_n h hM hc h5).1
theorem dv_l {x1 : Int32} {G Gv Gw : Nat → Nat → Int32} (h : dv2 x1 G Gv) (e : Gw 26 = Gv 26) (hM : okQ G) (hc : okK G) (h5 : ¬ f_M_isMessage x1 G = 0) {j : Nat} {z : Int32} : vp_in (g2 Gw 13 j z 26 7) 520 := by
  rw [g2_ne _ _ _ (by decide), e, h.2.2.2.2]
  exact (hM _ (vp_lt (im_in8 hc h5))).2.2.2
theorem jn_all {α β : Type} {P : β → Prop} {t : α} {b : α → β} (Q : α → Prop) (ht : Q t) (hb : ∀ j, Q j → P (b j)) : P (jn t b) := hb t ht
theorem an_rows {x1 x2 x3 x4 : Int32} {G : Nat → Nat → Int32} {i : Nat} (h0 : i ≠ 0) (h8 : i ≠ 8) (h15 : i ≠ 15) (h16 : i ≠ 16) (h : i < 18 ∨ 25 < i) : f_M_answer x1 x2 x3 x4 G i = G i := by
  unfold f_M_answer
  refine jn_all (P := fun r : Nat → Nat → Int32 => r i = G i) (fun j : Int32 → Nat → Nat → Int32 => ∀ v : Int32, j v i = G i) (fun v => ?_) (fun j hj => ?_)
  · try dsimp only
    split
    · split
      · refine jn_all (P := fun r : Nat → Nat → Int32 => r i = G i) (fun j : Int32 → Nat → Nat → Int32 => ∀ v : Int32, j v i = G i) (fun v2 => ?_) (fun j hj => ?_)
        · refine jn_all (P := fun r : Nat → Nat → Int32 => r i = G i) (fun j : Int32 → Nat → Nat → Int32 => ∀ v : Int32, j v i = G i) (fun v3 => ?_) (fun j hj => ?_)
          · refine jn_all (P := fun r : Nat → Nat → Int32 => r i = G i) (fun j : (Nat → Nat → Int32) → Nat → Nat → Int32 => ∀ H : Nat → Nat → Int32, H i = G i → j H i = G i) (fun H hH => ?_) (fun j hj => ?_)
            · refine jn_all (P := fun r : Nat → Nat → Int32 => r i = G i) (fun j : Int32 → Nat → Nat → Int32 => ∀ v : Int32, j v i = G i) (fun v4 => ?_) (fun j hj => ?_)
              · try dsimp only
                split
                · rw [send_rows h0 h]; exact hH
                · rw [g2_ne _ _ _ (by omega), send_rows h0 h]; exact hH
              · try dsimp only
                split <;> exact hj _
            · exact hj _ (by rw [rise_ne h8, g2_ne _ _ _ h16, g2_ne _ _ _ h15])
          · try dsimp only
            split <;> exact hj _
        · try dsimp only
          split <;> exact hj _
      · rw [send_rows h0 h]
    · rw [send_rows h0 h]
  · try dsimp only
    split <;> exact hj _
theorem an_okTa {x1 x2 x3 x4 : Int32} {G : Nat → Nat → Int32} (_hb : vp_in x1 4) (h : okT G) : okT (f_M_answer x1 x2 x3 x4 G) := okT_of3 h ⟨an_rows (by decide) (by decide) (by decide) (by decide) (by decide), an_rows (by decide) (by decide) (by decide) (by decide) (by decide), an_rows (by decide) (by decide) (by decide) (by decide) (by decide)⟩
theorem an_26 {x1 x2 x3 x4 : Int32} {G : Nat → Nat → Int32} (_hb : vp_in x1 4) : f_M_answer x1 x2 x3 x4 G 26 = G 26 := an_rows (by decide) (by decide) (by decide) (by decide) (by decide)
def f_M_deliver_12 (x1 : Int32) (G : Nat → Nat → Int32) : Nat → Int32 → (Nat → Nat → Int32) → Int32 × (Nat → Nat → Int32)
  | 0, v2_12, Gv12 => (0, Gv12)
  | k12 + 1, v2_12, Gv12 => (if 7 ≤ v2_12 then (jn (fun (Gv54 : Nat → Nat → Int32) => (jn (fun (Gv117 : Nat → Nat → Int32) => (jn (fun (t0_187 : Int32) => (if t0_187 = 0 then (1, Gv117) else (if (Gv117 26 0) = 1 then (1, ((f_M_cut (Gv54 26 2) (g2 Gv117 13 (Gv54 26 2).toNatClampNeg 0)))) else (1, ((f_M_extend (Gv54 26 2) (g2 Gv117 13 (Gv54 26 2).toNatClampNeg 0))))))) (fun (j187 : Int32 → Int32 × (Nat → Nat → Int32)) => (if (Gv117 26 0) ≤ 0 then (j187 0) else (if (Gv117 9 (Gv54 26 2).toNatClampNeg) = 0 then (j187 0) else (if (Gv117 10 (Gv54 26 2).toNatClampNeg) = (Gv117 26 3) then (if ((f_M_leads (Gv54 26 2) Gv117)) = 0 then (if (Gv117 13 (Gv54 26 2).toNatClampNeg) = 0 then (j187 0) else (if (Gv117 12 (Gv54 26 2).toNatClampNeg) = (Gv117 26 4) then (j187 1) else (j187 0))) else (j187 0)) else (j187 0))))))) (fun (j117 : (Nat → Nat → Int32) → Int32 × (Nat → Nat → Int32)) => (if (Gv54 26 0) = 0 then (if ((f_M_leads (Gv54 26 2) Gv54)) = 0 then (j117 Gv54) else (if (Gv54 10 (Gv54 26 2).toNatClampNeg) = (Gv54 26 3) then (j117 ((f_M_answer (Gv54 26 2) (Gv54 26 1) (Gv54 26 5) (Gv54 26 6) Gv54))) else (j117 Gv54))) else (j117 Gv54))))) (fun (j54 : (Nat → Nat → Int32) → Int32 × (Nat → Nat → Int32)) => (j54 ((f_M_remove x1 (g2 Gv12 26 7 (Gv12 25 x1.toNatClampNeg))))))) else (f_M_deliver_12 x1 G k12 (v2_12 + 1) (g2 Gv12 26 v2_12.toNatClampNeg ((f_M_message x1 v2_12 Gv12)))))
def f_M_deliver (x1 : Int32) (G : Nat → Nat → Int32) : Int32 × (Nat → Nat → Int32) := (if ((f_M_isMessage x1 G)) = 0 then (0, G) else (f_M_deliver_12 x1 G 8 0 G))
theorem e_M_deliver : y_M_deliver.cls ≠ "java/lang/invoke/MethodHandle" ∧ y_M_deliver.cls ≠ "java/lang/invoke/VarHandle" ∧ (parseMethodDescriptor y_M_deliver.desc).map (fun d => d.parameters.length) = some 1 := by decide +kernel
set_option maxHeartbeats 4000000 in
set_option maxRecDepth 100000 in
theorem m_M_deliver (l : Launch) (D : va_G) (cI cZ cB cM : ClassId) (a : Nat → Nat) (hJ : xJ 27 a) (G : Nat → Nat → Int32) (x1 : Int32) (hT : okT G) (hc : okK G) (hM : okQ G) (hB : 1 ≤ (G 0 1).toInt ∧ (G 0 1).toInt ≤ 3) (hD : ∀ x : Nat, x < 520 → 0 ≤ (G 3 x).toInt) : Met l y_M_deliver (Cond.code y_M_deliver prog_8_method_25_code 4 (Option.some FieldType.boolean) :: wsBig) { frames := 2, cells := 0, slots := 0, locals := 54 } (xP D xcl (xty cI cZ cB cM) 27 a (kg (kM cI cZ a) G) [.ref (a 0), .int x1]) (xQi D xcl 27 a ((f_M_deliver x1 G).1) (kg (kM cI cZ a) ((f_M_deliver x1 G).2))) 0 0 (xA 27 a) := by
  refine X_met (by decide) rfl (Nat.le_of_ble_eq_true rfl) hJ (fun Y s m args Γ => ?_)
  show X Y s m D xcl 27 a 4 (kg (kM cI cZ a) G) 0 [(0, .ref (a 0)), (1, .int x1)] []
  have E := f_M_deliver.eq_1 x1 G
  refine X_aload_n Γ d_M_deliver_0 rfl 0 rfl rfl ?_
  refine X_iload_n Γ d_M_deliver_1 rfl 1 rfl rfl ?_
  refine X_callVi (rest := []) Γ d_M_deliver_2 (m_M_isMessage l D cI cZ cB cM a hJ G x1) (by decide) rfl rfl rfl w647 w649 s_M_isMessage w9 w650 e_M_isMessage ⟨by decide, by decide⟩ ⟨rfl, rfl⟩ rfl rfl (Nat.le_of_ble_eq_true rfl) rfl ?_
  refine X_if_ne (tgt := 10) Γ d_M_deliver_5 (by decide) rfl (fun h5 => ?_) (fun h5 => ?_)
  · replace E := E.trans (if_neg h5)
    refine X_iconst (v := 0) Γ d_M_deliver_10 (by decide) rfl ?_
    refine X_istore_n Γ d_M_deliver_11 rfl (by decide) rfl rfl ?_
    have J12 : ∀ (k12 : Nat) (v2_12 : Int32) (Gv12 : Nat → Nat → Int32), (0 < k12 ∧ k12 ≤ 8 ∧ v2_12 = nI (8 - k12) ∧ dv x1 G v2_12 Gv12) → f_M_deliver x1 G = f_M_deliver_12 x1 G k12 v2_12 Gv12 → X Y s m D xcl 27 a 4 (kg (kM cI cZ a) Gv12) 12 [(0, .ref (a 0)), (1, .int x1), (2, .int v2_12)] [] := by
      intro k12
      induction k12 with
      | zero => exact fun v2_12 Gv12 hI12 _ => absurd hI12 (fun h => Nat.lt_irrefl 0 h.1)
      | succ k12 ih12 =>
        intro v2_12 Gv12 hI12 E
        rw [f_M_deliver_12] at E
        refine X_iload_n Γ d_M_deliver_12 rfl 2 rfl rfl ?_
        refine X_bipush (v := 7) Γ d_M_deliver_13 (by decide) rfl ?_
        refine X_icmp_ge (tgt := 36) Γ d_M_deliver_15 (by decide) rfl (fun h15 => ?_) (fun h15 => ?_)
        · replace E := E.trans (if_pos h15)
          refine X_aload_n Γ d_M_deliver_36 rfl 0 rfl rfl ?_
          refine X_get Γ d_M_deliver_37 (by decide) rfl rfl in_M 33 (by decide) w513 rfl rfl rfl ?_
          refine X_bipush (v := 7) Γ d_M_deliver_40 (by decide) rfl ?_
          refine X_aload_n Γ d_M_deliver_42 rfl 0 rfl rfl ?_
          refine X_get Γ d_M_deliver_43 (by decide) rfl rfl in_M 32 (by decide) w512 rfl rfl rfl ?_
          refine X_iload_n Γ d_M_deliver_46 rfl 1 rfl rfl ?_
          refine X_iald (v := (Gv12 25 x1.toNatClampNeg)) Γ d_M_deliver_47 (by decide) rfl 0 rfl (im_in8 hc h5) rfl rfl ?_
          refine X_iast (kx := 7) Γ d_M_deliver_48 (by decide) rfl 0 rfl in7_8 (fun _ => rfl) rfl rfl ?_
          refine X_aload_n Γ d_M_deliver_49 rfl 0 rfl rfl ?_
          refine X_iload_n Γ d_M_deliver_50 rfl 1 rfl rfl ?_
          refine X_callVv (rest := []) Γ d_M_deliver_51 (m_M_remove l D cI cZ cB cM a hJ (g2 Gv12 26 7 (Gv12 25 x1.toNatClampNeg)) x1 (dv_okK2 hc hI12.2.2.2) (dv_rm hc h5 hI12.2.2.2)) (by decide) rfl rfl rfl w651 w653 s_M_remove w9 w654 e_M_remove ⟨by decide, by decide⟩ ⟨rfl, rfl⟩ rfl rfl (Nat.le_of_ble_eq_true rfl) rfl ?_
          refine jn_open E (fun j54 ej54 E => ?_)
          have J54 : ∀ (Gv54 : Nat → Nat → Int32), (dv2 x1 G Gv54) → f_M_deliver x1 G = j54 Gv54 → X Y s m D xcl 27 a 4 (kg (kM cI cZ a) Gv54) 54 [(0, .ref (a 0)), (1, .int x1)] [] := by
            intro Gv54 hI54 E
            rw [ej54] at E
            refine X_aload_n Γ d_M_deliver_54 rfl 0 rfl rfl ?_
            refine X_get Γ d_M_deliver_55 (by decide) rfl rfl in_M 33 (by decide) w513 rfl rfl rfl ?_
            refine X_iconst (v := 2) Γ d_M_deliver_58 (by decide) rfl ?_
            refine X_iald (v := (Gv54 26 2)) Γ d_M_deliver_59 (by decide) rfl 0 rfl in2_8 rfl rfl ?_
            refine X_istore_n Γ d_M_deliver_60 rfl (by decide) rfl rfl ?_
            refine X_aload_n Γ d_M_deliver_61 rfl 1 rfl rfl ?_
            refine X_get Γ d_M_deliver_62 (by decide) rfl rfl in_M 33 (by decide) w513 rfl rfl rfl ?_
            refine X_iconst (v := 0) Γ d_M_deliver_65 (by decide) rfl ?_
            refine X_iald (v := (Gv54 26 0)) Γ d_M_deliver_66 (by decide) rfl 0 rfl in0_8 rfl rfl ?_
            refine jn_open E (fun j117 ej117 E => ?_)
            have J117 : ∀ (Gv117 : Nat → Nat → Int32), (okT Gv117 ∧ Gv117 26 = Gv54 26) → f_M_deliver x1 G = j117 Gv117 → X Y s m D xcl 27 a 4 (kg (kM cI cZ a) Gv117) 117 [(0, .ref (a 0)), (1, .int x1), (2, .int (Gv54 26 2))] [] := by
              intro Gv117 hI117 E
              rw [ej117] at E
              refine X_aload_n Γ d_M_deliver_117 rfl 0 rfl rfl ?_
              refine X_get Γ d_M_deliver_118 (by decide) rfl rfl in_M 33 (by decide) w513 rfl rfl rfl ?_
              refine X_iconst (v := 0) Γ d_M_deliver_121 (by decide) rfl ?_
              refine X_iald (v := (Gv117 26 0)) Γ d_M_deliver_122 (by decide) rfl 0 rfl in0_8 rfl rfl ?_
              refine jn_open E (fun j187 ej187 E => ?_)
              have J187 : ∀ (t0_187 : Int32), (True) → f_M_deliver x1 G = j187 t0_187 → X Y s m D xcl 27 a 4 (kg (kM cI cZ a) Gv117) 187 [(0, .ref (a 0)), (1, .int x1), (2, .int (Gv54 26 2))] [.int t0_187] := by
                intro t0_187 hI187 E
                rw [ej187] at E
                refine X_istore_n Γ d_M_deliver_187 rfl (by decide) rfl rfl ?_
                refine X_iload_n Γ d_M_deliver_188 rfl 0 rfl rfl ?_
                refine X_if_eq (tgt := 222) Γ d_M_deliver_189 (by decide) rfl (fun h189 => ?_) (fun h189 => ?_)
                · replace E := E.trans (if_pos h189)
                  refine X_iconst (v := 1) Γ d_M_deliver_222 (by decide) rfl ?_
                  exact X_iretz Γ d_M_deliver_223 rfl (g_r E) (g_eq E)
                · replace E := E.trans (if_neg h189)
                  refine X_aload_n Γ d_M_deliver_192 rfl 1 rfl rfl ?_
                  refine X_get Γ d_M_deliver_193 (by decide) rfl rfl in_M 19 (by decide) w499 rfl rfl rfl ?_
                  refine X_iload_n Γ d_M_deliver_196 rfl 3 rfl rfl ?_
                  refine X_iconst (v := 0) Γ d_M_deliver_197 (by decide) rfl ?_
                  refine X_zast (kx := (Gv54 26 2).toNatClampNeg) Γ d_M_deliver_198 (by decide) rfl 1 rfl (dv_b hI54 hM hc h5) rfl (fun _ => rfl) rfl rfl ?_
                  refine X_aload_n Γ d_M_deliver_199 rfl 1 rfl rfl ?_
                  refine X_get Γ d_M_deliver_200 (by decide) rfl rfl in_M 33 (by decide) w513 rfl rfl rfl ?_
                  refine X_iconst (v := 0) Γ d_M_deliver_203 (by decide) rfl ?_
                  refine X_iald (v := (Gv117 26 0)) Γ d_M_deliver_204 (by decide) rfl 0 rfl in0_8 rfl rfl ?_
                  refine X_iconst (v := 1) Γ d_M_deliver_205 (by decide) rfl ?_
                  refine X_icmp_ne (tgt := 217) Γ d_M_deliver_206 (by decide) rfl (fun h206 => ?_) (fun h206 => ?_)
                  · replace E := E.trans (if_neg h206)
                    refine X_aload_n Γ d_M_deliver_217 rfl 1 rfl rfl ?_
                    refine X_iload_n Γ d_M_deliver_218 rfl 3 rfl rfl ?_
                    refine X_callVv (rest := []) Γ d_M_deliver_219 (m_M_extend l D cI cZ cB cM a hJ (g2 Gv117 13 (Gv54 26 2).toNatClampNeg 0) (Gv54 26 2) (dv_b hI54 hM hc h5) (okT_of3 hI117.1 ⟨rfl, rfl, rfl⟩) (dv_l hI54 hI117.2 hM hc h5)) (by decide) rfl rfl rfl w684 w686 s_M_extend w9 w687 e_M_extend ⟨by decide, by decide⟩ ⟨rfl, rfl⟩ rfl rfl (Nat.le_of_ble_eq_true rfl) rfl ?_
                    refine X_iconst (v := 1) Γ d_M_deliver_222 (by decide) rfl ?_
                    exact X_iretz Γ d_M_deliver_223 rfl (g_r E) (g_eq E)
                  · replace E := E.trans (if_pos h206)
                    refine X_aload_n Γ d_M_deliver_209 rfl 1 rfl rfl ?_
                    refine X_iload_n Γ d_M_deliver_210 rfl 3 rfl rfl ?_
                    refine X_callVv (rest := []) Γ d_M_deliver_211 (m_M_cut l D cI cZ cB cM a hJ (g2 Gv117 13 (Gv54 26 2).toNatClampNeg 0) (Gv54 26 2) (dv_b hI54 hM hc h5) (okT_of3 hI117.1 ⟨rfl, rfl, rfl⟩) (dv_w hI54 hI117.2 hM hc h5)) (by decide) rfl rfl rfl w680 w682 s_M_cut w9 w683 e_M_cut ⟨by decide, by decide⟩ ⟨rfl, rfl⟩ rfl rfl (Nat.le_of_ble_eq_true rfl) rfl ?_
                    refine X_goto (pc' := 222) Γ d_M_deliver_214 (by decide) ?_
                    refine X_iconst (v := 1) Γ d_M_deliver_222 (by decide) rfl ?_
                    exact X_iretz Γ d_M_deliver_223 rfl (g_r E) (g_eq E)
              refine X_if_le (tgt := 186) Γ d_M_deliver_123 (by decide) rfl (fun h123 => ?_) (fun h123 => ?_)
              · replace E := E.trans (if_pos h123)
                refine X_iconst (v := 0) Γ d_M_deliver_186 (by decide) rfl ?_
                refine X_loc [0, 1, 2] rfl ?_
                exact J187 0 trivial E
              · replace E := E.trans (if_neg h123)
                refine X_aload_n Γ d_M_deliver_126 rfl 0 rfl rfl ?_
                refine X_get Γ d_M_deliver_127 (by decide) rfl rfl in_M 15 (by decide) w495 rfl rfl rfl ?_
                refine X_iload_n Γ d_M_deliver_130 rfl 2 rfl rfl ?_
                refine X_zald (v := (Gv117 9 (Gv54 26 2).toNatClampNeg)) Γ d_M_deliver_131 (by decide) rfl 1 rfl (dv_b hI54 hM hc h5) rfl rfl ?_
                refine X_if_eq (tgt := 186) Γ d_M_deliver_132 (by decide) rfl (fun h132 => ?_) (fun h132 => ?_)
                · replace E := E.trans (if_pos h132)
                  refine X_iconst (v := 0) Γ d_M_deliver_186 (by decide) rfl ?_
                  refine X_loc [0, 1, 2] rfl ?_
                  exact J187 0 trivial E
                · replace E := E.trans (if_neg h132)
                  refine X_aload_n Γ d_M_deliver_135 rfl 0 rfl rfl ?_
                  refine X_get Γ d_M_deliver_136 (by decide) rfl rfl in_M 16 (by decide) w496 rfl rfl rfl ?_
                  refine X_iload_n Γ d_M_deliver_139 rfl 2 rfl rfl ?_
                  refine X_iald (v := (Gv117 10 (Gv54 26 2).toNatClampNeg)) Γ d_M_deliver_140 (by decide) rfl 0 rfl (dv_b hI54 hM hc h5) rfl rfl ?_
                  refine X_aload_n Γ d_M_deliver_141 rfl 0 rfl rfl ?_
                  refine X_get Γ d_M_deliver_142 (by decide) rfl rfl in_M 33 (by decide) w513 rfl rfl rfl ?_
                  refine X_iconst (v := 3) Γ d_M_deliver_145 (by decide) rfl ?_
                  refine X_iald (v := (Gv117 26 3)) Γ d_M_deliver_146 (by decide) rfl 0 rfl in3_8 rfl rfl ?_
                  refine X_icmp_ne (tgt := 186) Γ d_M_deliver_147 (by decide) rfl (fun h147 => ?_) (fun h147 => ?_)
                  · replace E := E.trans (if_neg h147)
                    refine X_iconst (v := 0) Γ d_M_deliver_186 (by decide) rfl ?_
                    refine X_loc [0, 1, 2] rfl ?_
                    exact J187 0 trivial E
                  · replace E := E.trans (if_pos h147)
                    refine X_aload_n Γ d_M_deliver_150 rfl 0 rfl rfl ?_
                    refine X_iload_n Γ d_M_deliver_151 rfl 2 rfl rfl ?_
                    refine X_callVi (rest := []) Γ d_M_deliver_152 (m_M_leads l D cI cZ cB cM a hJ Gv117 (Gv54 26 2)) (by decide) rfl rfl rfl w588 w590 s_M_leads w9 w591 e_M_leads ⟨by decide, by decide⟩ ⟨rfl, rfl⟩ rfl rfl (Nat.le_of_ble_eq_true rfl) rfl ?_
                    refine X_if_ne (tgt := 186) Γ d_M_deliver_155 (by decide) rfl (fun h155 => ?_) (fun h155 => ?_)
                    · replace E := E.trans (if_neg h155)
                      refine X_iconst (v := 0) Γ d_M_deliver_186 (by decide) rfl ?_
                      refine X_loc [0, 1, 2] rfl ?_
                      exact J187 0 trivial E
                    · replace E := E.trans (if_pos h155)
                      refine X_aload_n Γ d_M_deliver_158 rfl 0 rfl rfl ?_
                      refine X_get Γ d_M_deliver_159 (by decide) rfl rfl in_M 19 (by decide) w499 rfl rfl rfl ?_
                      refine X_iload_n Γ d_M_deliver_162 rfl 2 rfl rfl ?_
                      refine X_zald (v := (Gv117 13 (Gv54 26 2).toNatClampNeg)) Γ d_M_deliver_163 (by decide) rfl 1 rfl (dv_b hI54 hM hc h5) rfl rfl ?_
                      refine X_if_eq (tgt := 186) Γ d_M_deliver_164 (by decide) rfl (fun h164 => ?_) (fun h164 => ?_)
                      · replace E := E.trans (if_pos h164)
                        refine X_iconst (v := 0) Γ d_M_deliver_186 (by decide) rfl ?_
                        refine X_loc [0, 1, 2] rfl ?_
                        exact J187 0 trivial E
                      · replace E := E.trans (if_neg h164)
                        refine X_aload_n Γ d_M_deliver_167 rfl 0 rfl rfl ?_
                        refine X_get Γ d_M_deliver_168 (by decide) rfl rfl in_M 18 (by decide) w498 rfl rfl rfl ?_
                        refine X_iload_n Γ d_M_deliver_171 rfl 2 rfl rfl ?_
                        refine X_iald (v := (Gv117 12 (Gv54 26 2).toNatClampNeg)) Γ d_M_deliver_172 (by decide) rfl 0 rfl (dv_b hI54 hM hc h5) rfl rfl ?_
                        refine X_aload_n Γ d_M_deliver_173 rfl 0 rfl rfl ?_
                        refine X_get Γ d_M_deliver_174 (by decide) rfl rfl in_M 33 (by decide) w513 rfl rfl rfl ?_
                        refine X_iconst (v := 4) Γ d_M_deliver_177 (by decide) rfl ?_
                        refine X_iald (v := (Gv117 26 4)) Γ d_M_deliver_178 (by decide) rfl 0 rfl in4_8 rfl rfl ?_
                        refine X_icmp_ne (tgt := 186) Γ d_M_deliver_179 (by decide) rfl (fun h179 => ?_) (fun h179 => ?_)
                        · replace E := E.trans (if_neg h179)
                          refine X_iconst (v := 0) Γ d_M_deliver_186 (by decide) rfl ?_
                          refine X_loc [0, 1, 2] rfl ?_
                          exact J187 0 trivial E
                        · replace E := E.trans (if_pos h179)
                          refine X_iconst (v := 1) Γ d_M_deliver_182 (by decide) rfl ?_
                          refine X_goto (pc' := 187) Γ d_M_deliver_183 (by decide) ?_
                          refine X_loc [0, 1, 2] rfl ?_
                          exact J187 1 trivial E
            refine X_if_ne (tgt := 117) Γ d_M_deliver_67 (by decide) rfl (fun h67 => ?_) (fun h67 => ?_)
            · replace E := E.trans (if_neg h67)
              refine X_loc [1, 2, 0] rfl ?_
              exact J117 Gv54 (⟨dv_okT hI54 hT, rfl⟩) E
            · replace E := E.trans (if_pos h67)
              refine X_aload_n Γ d_M_deliver_70 rfl 1 rfl rfl ?_
              refine X_iload_n Γ d_M_deliver_71 rfl 0 rfl rfl ?_
              refine X_callVi (rest := []) Γ d_M_deliver_72 (m_M_leads l D cI cZ cB cM a hJ Gv54 (Gv54 26 2)) (by decide) rfl rfl rfl w588 w590 s_M_leads w9 w591 e_M_leads ⟨by decide, by decide⟩ ⟨rfl, rfl⟩ rfl rfl (Nat.le_of_ble_eq_true rfl) rfl ?_
              refine X_if_eq (tgt := 117) Γ d_M_deliver_75 (by decide) rfl (fun h75 => ?_) (fun h75 => ?_)
              · replace E := E.trans (if_pos h75)
                refine X_loc [1, 2, 0] rfl ?_
                exact J117 Gv54 (⟨dv_okT hI54 hT, rfl⟩) E
              · replace E := E.trans (if_neg h75)
                refine X_aload_n Γ d_M_deliver_78 rfl 1 rfl rfl ?_
                refine X_get Γ d_M_deliver_79 (by decide) rfl rfl in_M 16 (by decide) w496 rfl rfl rfl ?_
                refine X_iload_n Γ d_M_deliver_82 rfl 0 rfl rfl ?_
                refine X_iald (v := (Gv54 10 (Gv54 26 2).toNatClampNeg)) Γ d_M_deliver_83 (by decide) rfl 0 rfl (dv_b hI54 hM hc h5) rfl rfl ?_
                refine X_aload_n Γ d_M_deliver_84 rfl 1 rfl rfl ?_
                refine X_get Γ d_M_deliver_85 (by decide) rfl rfl in_M 33 (by decide) w513 rfl rfl rfl ?_
                refine X_iconst (v := 3) Γ d_M_deliver_88 (by decide) rfl ?_
                refine X_iald (v := (Gv54 26 3)) Γ d_M_deliver_89 (by decide) rfl 0 rfl in3_8 rfl rfl ?_
                refine X_icmp_ne (tgt := 117) Γ d_M_deliver_90 (by decide) rfl (fun h90 => ?_) (fun h90 => ?_)
                · replace E := E.trans (if_neg h90)
                  refine X_loc [1, 2, 0] rfl ?_
                  exact J117 Gv54 (⟨dv_okT hI54 hT, rfl⟩) E
                · replace E := E.trans (if_pos h90)
                  refine X_aload_n Γ d_M_deliver_93 rfl 1 rfl rfl ?_
                  refine X_iload_n Γ d_M_deliver_94 rfl 0 rfl rfl ?_
                  refine X_aload_n Γ d_M_deliver_95 rfl 1 rfl rfl ?_
                  refine X_get Γ d_M_deliver_96 (by decide) rfl rfl in_M 33 (by decide) w513 rfl rfl rfl ?_
                  refine X_iconst (v := 1) Γ d_M_deliver_99 (by decide) rfl ?_
                  refine X_iald (v := (Gv54 26 1)) Γ d_M_deliver_100 (by decide) rfl 0 rfl in1_8 rfl rfl ?_
                  refine X_aload_n Γ d_M_deliver_101 rfl 1 rfl rfl ?_
                  refine X_get Γ d_M_deliver_102 (by decide) rfl rfl in_M 33 (by decide) w513 rfl rfl rfl ?_
                  refine X_iconst (v := 5) Γ d_M_deliver_105 (by decide) rfl ?_
                  refine X_iald (v := (Gv54 26 5)) Γ d_M_deliver_106 (by decide) rfl 0 rfl in5_8 rfl rfl ?_
                  refine X_aload_n Γ d_M_deliver_107 rfl 1 rfl rfl ?_
                  refine X_get Γ d_M_deliver_108 (by decide) rfl rfl in_M 33 (by decide) w513 rfl rfl rfl ?_
                  refine X_bipush (v := 6) Γ d_M_deliver_111 (by decide) rfl ?_
                  refine X_iald (v := (Gv54 26 6)) Γ d_M_deliver_113 (by decide) rfl 0 rfl in6_8 rfl rfl ?_
                  refine X_callVv (rest := []) Γ d_M_deliver_114 (m_M_answer l D cI cZ cB cM a hJ Gv54 (Gv54 26 2) (Gv54 26 1) (Gv54 26 5) (Gv54 26 6) (dv_b hI54 hM hc h5) (dv_okT hI54 hT) (dv_okK3 hI54 hc h5) (dv_f hI54 hM hc h5) (dv_n hI54 hM hc h5) (dv_B hI54 hB) (dv_D hI54 hD)) (by decide) rfl rfl rfl w672 w674 s_M_answer w9 w675 e_M_answer ⟨by decide, by decide⟩ ⟨rfl, rfl⟩ rfl rfl (Nat.le_of_ble_eq_true rfl) rfl ?_
                  refine X_loc [1, 2, 0] rfl ?_
                  exact J117 ((f_M_answer (Gv54 26 2) (Gv54 26 1) (Gv54 26 5) (Gv54 26 6) Gv54)) (⟨an_okTa (dv_b hI54 hM hc h5) (dv_okT hI54 hT), an_26 (dv_b hI54 hM hc h5)⟩) E
          refine X_loc [0, 1] rfl ?_
          exact J54 ((f_M_remove x1 (g2 Gv12 26 7 (Gv12 25 x1.toNatClampNeg)))) (dv2_of hc h5 hI12 h15) E
        · replace E := E.trans (if_neg h15)
          refine X_aload_n Γ d_M_deliver_18 rfl 0 rfl rfl ?_
          refine X_get Γ d_M_deliver_19 (by decide) rfl rfl in_M 33 (by decide) w513 rfl rfl rfl ?_
          refine X_iload_n Γ d_M_deliver_22 rfl 2 rfl rfl ?_
          refine X_aload_n Γ d_M_deliver_23 rfl 0 rfl rfl ?_
          refine X_iload_n Γ d_M_deliver_24 rfl 1 rfl rfl ?_
          refine X_iload_n Γ d_M_deliver_25 rfl 2 rfl rfl ?_
          refine X_callVi (rest := [.int v2_12, .ref (a 26)]) Γ d_M_deliver_26 (m_M_message l D cI cZ cB cM a hJ Gv12 x1 v2_12 (dv_okK hc hI12.2.2.2)) (by decide) rfl rfl rfl w671 w664 w665 w9 w666 e_M_message ⟨by decide, by decide⟩ ⟨rfl, rfl⟩ rfl rfl (Nat.le_of_ble_eq_true rfl) rfl ?_
          refine X_iast (kx := v2_12.toNatClampNeg) Γ d_M_deliver_29 (by decide) rfl 0 rfl (in7w (lc_in (by decide) (by decide) hI12.2.1 hI12.2.2.1 h15)) (fun _ => rfl) rfl rfl ?_
          refine X_iinc (v := (v2_12 + 1)) Γ d_M_deliver_30 2 rfl rfl (by decide) rfl rfl ?_
          refine X_goto (pc' := 12) Γ d_M_deliver_33 (by decide) ?_
          refine X_loc [1, 2, 0] rfl ?_
          exact ih12 (v2_12 + 1) (g2 Gv12 26 v2_12.toNatClampNeg ((f_M_message x1 v2_12 Gv12))) (⟨(lc_step (by decide) (by decide) hI12.1 hI12.2.1 hI12.2.2.1 h15).1, (lc_step (by decide) (by decide) hI12.1 hI12.2.1 hI12.2.2.1 h15).2.1, (lc_step (by decide) (by decide) hI12.1 hI12.2.1 hI12.2.2.1 h15).2.2, dv_step (lc_in (by decide) (by decide) hI12.2.1 hI12.2.2.1 h15) hI12.2.2.2⟩) E
    refine X_loc [1, 2, 0] rfl ?_
    exact J12 8 0 G (⟨by decide, by decide, by decide, dv_init⟩) E
  · replace E := E.trans (if_pos h5)
    refine X_iconst (v := 0) Γ d_M_deliver_8 (by decide) rfl ?_
    exact X_iretz Γ d_M_deliver_9 rfl (g_r E) (g_eq E)
