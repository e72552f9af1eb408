/-! learn. -/
section LEARN
variable {k : Nat} {G G' U U' : Nat → Nat → Int32} {P : Nat → Nat} {c : Nat}
theorem to_loop (hc : c < 4) : ∀ (f m : Nat) (V : Nat → Nat → Int32), m + f = 5 → m ≤ 4 →
    (∀ j : Nat, j ≠ 14 → j ≠ 15 → j ≠ 16 → f_M_takeOver_19 (nI c) G f (nI m) V j = V j) ∧ (∀ j q : Nat, (q < 4 * c + m ∨ 4 * c + 4 ≤ q) → f_M_takeOver_19 (nI c) G f (nI m) V j q = V j q) ∧
    ∀ m' : Nat, m ≤ m' → m' < 4 → f_M_takeOver_19 (nI c) G f (nI m) V 14 (4 * c + m') = V 1 m' ∧ f_M_takeOver_19 (nI c) G f (nI m) V 15 (4 * c + m') = -1 ∧ f_M_takeOver_19 (nI c) G f (nI m) V 16 (4 * c + m') = V 0 3 := by
  intro f
  induction f with
  | zero => intro m V h1 h2; omega
  | succ f ih =>
    intro m V h1 h2
    rw [f_M_takeOver_19]
    by_cases hm : m = 4
    · subst hm
      rw [if_pos (by decide)]
      exact ⟨fun _ _ _ _ => rfl, fun _ _ _ => rfl, fun m' _ _ => by omega⟩
    · have h4 : ¬ (4 : Int32) ≤ nI m := by
        rw [show (4 : Int32) = nI 4 by decide]
        exact nI_ge (by omega) (by omega)
      rw [if_neg h4, nI_1, at4 hc (by omega), cl4 (by omega)]
      obtain ⟨i1, i2, i3⟩ := ih (m + 1) (g2 (g2 (g2 V 14 (4 * c + m) (V 1 m)) 15 (4 * c + m) (-1)) 16 (4 * c + m) (V 0 3)) (by omega) (by omega)
      refine ⟨fun j a1 a2 a3 => ?_, fun j q hq => ?_, fun m' a1 a2 => ?_⟩
      · rw [i1 j a1 a2 a3, g2_ne _ _ _ a3, g2_ne _ _ _ a2, g2_ne _ _ _ a1]
      · rw [i2 j q (by omega), g2_col (by omega), g2_col (by omega), g2_col (by omega)]
      · by_cases hmm : m' = m
        · subst hmm
          rw [i2 14 _ (by omega), i2 15 _ (by omega), i2 16 _ (by omega)]
          refine ⟨?_, ?_, ?_⟩
          · rw [g2_ne _ _ _ (by decide), g2_ne _ _ _ (by decide), g2_at]
          · rw [g2_ne _ _ _ (by decide), g2_at]
          · rw [g2_at]
        · obtain ⟨q1, q2, q3⟩ := i3 m' (by omega) a2
          refine ⟨?_, q2, ?_⟩
          · rw [q1, g2_ne _ _ _ (by decide), g2_ne _ _ _ (by decide), g2_ne _ _ _ (by decide)]
          · rw [q3, g2_ne _ _ _ (by decide), g2_ne _ _ _ (by decide), g2_ne _ _ _ (by decide)]
theorem fill_loop {n len : Nat} {x : Int32} (hl : len < 1000) : ∀ (f m : Nat) (V : Nat → Nat → Int32), m + f = len + 1 → m ≤ len →
    (∀ r : Nat, r ≠ n → f_Arr_fill_5 n len x G f (nI m) V r = V r) ∧ (∀ j : Nat, j < m → f_Arr_fill_5 n len x G f (nI m) V n j = V n j) ∧ ∀ j : Nat, m ≤ j → j < len → f_Arr_fill_5 n len x G f (nI m) V n j = x := by
  intro f
  induction f with
  | zero => intro m V h1 h2; omega
  | succ f ih =>
    intro m V h1 h2
    rw [f_Arr_fill_5]
    by_cases hm : m = len
    · subst hm
      rw [if_pos (nI_le (Nat.le_refl _) (by omega))]
      exact ⟨fun _ _ => rfl, fun _ _ => rfl, fun j _ _ => by omega⟩
    · rw [if_neg (nI_ge (by omega) (by omega)), nI_1, nI_clamp (by omega)]
      obtain ⟨i1, i2, i3⟩ := ih (m + 1) (g2 V n m x) (by omega) (by omega)
      refine ⟨fun r hr => ?_, fun j hj => ?_, fun j a1 a2 => ?_⟩
      · rw [i1 r hr, g2_ne _ _ _ hr]
      · rw [i2 j (by omega), g2_k _ _ _ (by omega)]
      · by_cases hj : j = m
        · subst hj
          rw [i2 j (by omega), g2_at]
        · exact i3 j (by omega) a2
theorem fill_ne {n len r : Nat} {x : Int32} (hl : len < 1000) (h : r ≠ n) : f_Arr_fill n len x G r = G r := (fill_loop hl (len + 1) 0 G (by omega) (by omega)).1 r h
theorem fill_at {n len j : Nat} {x : Int32} (hl : len < 1000) (h : j < len) : f_Arr_fill n len x G n j = x := (fill_loop hl (len + 1) 0 G (by omega) (by omega)).2.2 j (by omega) h
/-- a broker learns what the controller knows -/
theorem learn_inv (hk : k + 1 ≤ 512) (hI : Inv k G P U) (hc : c < 4) (hne : ¬ U 10 c = U 0 4)
    (eG : ∀ r : Nat, r ≠ 2 + c → r ≠ 2 + c + 16 → r ≠ 2 + c + 20 → G' r = G r) (eK : ∀ j : Nat, j = 0 ∨ j = 4 ∨ j = 7 ∨ j = 8 → G' (2 + c) j = G (2 + c) j)
    (k5 : G' (2 + c) 5 = U 0 4) (k6 : G' (2 + c) 6 = U 0 5) (k9 : G' (2 + c) 9 = 0)
    (eU : ∀ r : Nat, r ≠ 10 → r ≠ 11 → r ≠ 13 → r ≠ 14 → r ≠ 15 → r ≠ 16 → r ≠ 17 → U' r = U r) (u10 : U' 10 c = U 0 4) (u11 : U' 11 c = U 0 5) (u13 : U' 13 c = 0)
    (uC : ∀ j b : Nat, b ≠ c → j = 10 ∨ j = 11 ∨ j = 13 ∨ j = 17 → U' j b = U j b) (uK : ∀ j b m : Nat, b ≠ c → m < 4 → j = 14 ∨ j = 15 ∨ j = 16 → U' j (4 * b + m) = U j (4 * b + m))
    (hK : U 0 5 = nI c → G' (2 + c) 10 = U' 17 c ∧ isSet (G' (2 + c) 11) (fun m => U' 14 (4 * c + m)) ∧ (∀ m : Nat, m < 4 → G' (2 + c + 16) m = U' 15 (4 * c + m)) ∧ ∀ m : Nat, m < 4 → G' (2 + c + 20) m = U' 16 (4 * c + m))
    (hR : U 0 5 = nI c → (0 ≤ (U' 17 c).toInt ∧ (U' 17 c).toInt ≤ 40) ∧ ∀ m : Nat, m < 4 → (-1 ≤ (U' 15 (4 * c + m)).toInt ∧ (U' 15 (4 * c + m)).toInt ≤ 40) ∧ zb (U' 14 (4 * c + m))) : Inv (k + 1) G' P U' := by
  have z : ∀ r : Nat, r < 10 ∨ r = 12 ∨ 17 < r → U' r = U r := fun r h => eU r (by omega) (by omega) (by omega) (by omega) (by omega) (by omega) (by omega)
  have hT : sameT U U' := ⟨z _ (by omega), z _ (by omega), z _ (by omega), z _ (by omega), z _ (by omega)⟩
  obtain ⟨⟨r0, r4, r5, r6, r7, r8, r9⟩, r2, r3⟩ := hI.2.1.2.1 c hc
  obtain ⟨a1, a2, a3, a4, a5, a6, a7, a8, a9, a10, a11, a12, a13⟩ := hI.2.2.2.2.2.2.1 c hc
  obtain ⟨s0, s1, s2, s3, s4, s5, s6, s7⟩ := hI.2.1.1
  refine Inv_one (c := c) hk hI ?_ ?_ (fun b hb hbc => ⟨eG _ (by omega) (by omega) (by omega), eG _ (by omega) (by omega) (by omega), eG _ (by omega) (by omega) (by omega), eG _ (by omega) (by omega) (by omega), eG _ (by omega) (by omega) (by omega), eG _ (by omega) (by omega) (by omega)⟩) (fun r hr => eG r (by omega) (by omega) (by omega)) hT (fun j _ => by rw [z 0 (by omega)]) (fun j b hb h1 h2 => ?_) (fun b hb => uC 17 b hb (by omega)) (fun b m hb hm => ⟨uK 14 b m hb hm (by omega), uK 15 b m hb hm (by omega), uK 16 b m hb hm (by omega)⟩) (fun j _ _ => z j (by omega)) (fun _ => ?_) (fun _ => ?_) (fun _ => ?_) (fun _ => ?_) (fun b hb _ hbc e ne => ?_) (fun i hi hf hM => ?_)
  · unfold RS
    rw [eG 0 (by omega) (by omega) (by omega), eG 26 (by omega) (by omega) (by omega), eG 27 (by omega) (by omega) (by omega), z 0 (by omega), z 1 (by omega)]
    exact ⟨s0, s1, s2, s3, s4, s5, s6, s7⟩
  · rw [z 1 (by omega)]
    exact hI.2.2.2.2.2.1
  · by_cases h : j = 10 ∨ j = 11 ∨ j = 13
    · exact uC j b hb (by omega)
    · rw [z j (by omega)]
  · unfold RB
    rw [k5, k6, k9, u10, u11, u13, eK 0 (by omega), eK 4 (by omega), eK 7 (by omega), eK 8 (by omega), z 9 (by omega), z 8 (by omega), z 12 (by omega)]
    exact ⟨r0, r4, rfl, rfl, r7, r8, rfl⟩
  · exact RL_fr hT (by rw [z 7 (by omega)]) (by rw [eG _ (by omega) (by omega) (by omega)]) (eG _ (by omega) (by omega) (by omega)) (eG _ (by omega) (by omega) (by omega)) r2
  · intro q
    rw [u11] at q
    exact hK q
  · have hce := hI.2.2.1.2.2.2.1
    have hcl := hI.2.2.1.2.2.2.2.1
    have hE := hI.2.2.2.2.1 _ a1.2
    unfold okB onPath
    rw [lastN_fr (U := U) (by rw [z 7 (by omega)]), recN_fr (U := U) (by rw [z 0 (by omega)]), hT.e_dep, hT.e_epo, hT.e_nodeAt, u10, u11, u13, z 0 (by omega), z 7 (by omega), z 8 (by omega), z 9 (by omega), z 12 (by omega)]
    refine ⟨a1, a2, a3, Or.inl rfl, ⟨a5.1, by omega⟩, ⟨by omega, Int.le_refl _⟩, hcl, fun q => ?_, fun _ => rfl, fun _ => hE, fun q => absurd q (by decide), fun q => ⟨(a13 q).1, (hR q).1, (hR q).2⟩, fun q => ⟨(a13 q).1, fun _ z => absurd rfl z⟩⟩
    rw [q, i0] at hce
    omega
  · rw [uC 10 b hbc (by omega), u10] at e
    rw [uC 11 b hbc (by omega), u11]
    exact (hI.2.2.2.2.2.2.1 b hb).2.2.2.2.2.2.2.2.1 e
  · refine okM_dead hT (by rw [z 0 (by omega)]; exact Int.le_refl _) (by rw [z 0 (by omega)]) (fun j b1 b2 => by rw [z j (by omega)]) (by rw [z 12 (by omega)]; exact Int.le_refl _) (fun q => ?_) hM
    have := q.1
    rw [folN_eq (fun j b1 b2 => by rw [z j (by omega)]), hf, u13] at this
    exact absurd this (by decide)
theorem sim_learn : Sim_learn := by
  intro k G P U x1 x2 hk hI
  by_cases h : f_I_isBroker x1 = 0
  · have e1 : f_I_learn x1 G = (0, G) := by unfold f_I_learn f_I_isUp; rw [if_pos h, if_pos rfl]
    have e2 : f_M_learn x1 U = (0, U) := by unfold f_M_learn; rw [if_pos (show f_M_isBroker x1 = 0 from h)]
    rw [e1, e2]
    exact ⟨rfl, Inv_same hk hI⟩
  obtain ⟨c, hc, rfl⟩ := brk h
  obtain ⟨⟨r0, r4, r5, r6, r7, r8, r9⟩, r2, r3⟩ := hI.2.1.2.1 c hc
  obtain ⟨s0, s1, s2, s3, s4, s5, s6, s7⟩ := hI.2.1.1
  by_cases h2 : U 9 c = 0
  · have e1 : f_I_learn (nI c) G = (0, G) := by unfold f_I_learn; rw [if_pos ((isUp_eq hI hc).mpr h2)]
    have e2 : f_M_learn (nI c) U = (0, U) := by unfold f_M_learn; rw [if_neg (show ¬ f_M_isBroker (nI c) = 0 from h), cl4 hc, if_pos h2]
    rw [e1, e2]
    exact ⟨rfl, Inv_same hk hI⟩
  by_cases h3 : U 10 c = U 0 4
  · have e1 : f_I_learn (nI c) G = (0, G) := by unfold f_I_learn; rw [if_neg (fun q => h2 ((isUp_eq hI hc).mp q)), cl4 hc, r5, s4, if_pos h3]
    have e2 : f_M_learn (nI c) U = (0, U) := by unfold f_M_learn; rw [if_neg (show ¬ f_M_isBroker (nI c) = 0 from h), cl4 hc, if_neg h2, if_pos h3]
    rw [e1, e2]
    exact ⟨rfl, Inv_same hk hI⟩
  have e1 : f_I_learn (nI c) G = (1, f_B_adopt (2 + c) (G 0 6) G) := by unfold f_I_learn; rw [if_neg (fun q => h2 ((isUp_eq hI hc).mp q)), cl4 hc, r5, s4, if_neg h3]
  have c26 : (g2 G (2 + c) 5 (G 26 0)) 26 1 = G 26 1 := by rw [g2_ne _ _ _ (by omega)]
  have hG1 : ∀ r : Nat, r ≠ 2 + c → g2 (g2 (g2 G (2 + c) 5 (G 26 0)) (2 + c) 6 (G 26 1)) (2 + c) 9 0 r = G r := fun r hr => by rw [g2_ne _ _ _ hr, g2_ne _ _ _ hr, g2_ne _ _ _ hr]
  have hK1 : ∀ j : Nat, j ≠ 5 → j ≠ 6 → j ≠ 9 → g2 (g2 (g2 G (2 + c) 5 (G 26 0)) (2 + c) 6 (G 26 1)) (2 + c) 9 0 (2 + c) j = G (2 + c) j := fun j a1 a2 a3 => by rw [g2_k _ _ _ a3, g2_k _ _ _ a2, g2_k _ _ _ a1]
  have q5 : g2 (g2 (g2 G (2 + c) 5 (G 26 0)) (2 + c) 6 (G 26 1)) (2 + c) 9 0 (2 + c) 5 = U 0 4 := by rw [g2_k _ _ _ (by decide), g2_k _ _ _ (by decide), g2_at, s4]
  have q6 : g2 (g2 (g2 G (2 + c) 5 (G 26 0)) (2 + c) 6 (G 26 1)) (2 + c) 9 0 (2 + c) 6 = U 0 5 := by rw [g2_k _ _ _ (by decide), g2_at, s5]
  have q9 : g2 (g2 (g2 G (2 + c) 5 (G 26 0)) (2 + c) 6 (G 26 1)) (2 + c) 9 0 (2 + c) 9 = 0 := by rw [g2_at]
  have eA : f_B_adopt (2 + c) (G 0 6) G = if U 0 5 = nI c then f_Arr_fill (2 + c + 20) 4 (G 0 6) (f_Arr_fill (2 + c + 16) 4 (-1) (g2 (g2 (g2 (g2 (g2 G (2 + c) 5 (G 26 0)) (2 + c) 6 (G 26 1)) (2 + c) 9 0) (2 + c) 10 (G (2 + c + 4) 2)) (2 + c) 11 (G 26 2))) else g2 (g2 (g2 G (2 + c) 5 (G 26 0)) (2 + c) 6 (G 26 1)) (2 + c) 9 0 := by
    unfold f_B_adopt f_B_leads
    rw [c26, hK1 4 (by decide) (by decide) (by decide), hK1 0 (by decide) (by decide) (by decide), q6, r4, r0, if_neg h2]
    rw [hG1 (2 + c + 4) (by omega)]
    by_cases q : U 0 5 = nI c
    · rw [if_pos q, if_neg one_ne0, if_pos q]
      rw [g2_ne _ _ _ (by omega), hG1 26 (by omega)]
    · rw [if_neg q, if_pos rfl, if_neg q]
  generalize g2 (g2 (g2 G (2 + c) 5 (G 26 0)) (2 + c) 6 (G 26 1)) (2 + c) 9 0 = G1 at hG1 hK1 q5 q6 q9 eA
  have hU1 : ∀ r : Nat, r ≠ 10 → r ≠ 11 → r ≠ 13 → g2 (g2 (g2 U 10 c (U 0 4)) 11 c (U 0 5)) 13 c 0 r = U r := fun r a1 a2 a3 => by rw [g2_ne _ _ _ a3, g2_ne _ _ _ a2, g2_ne _ _ _ a1]
  have w10 : g2 (g2 (g2 U 10 c (U 0 4)) 11 c (U 0 5)) 13 c 0 10 c = U 0 4 := by rw [g2_ne _ _ _ (by decide), g2_ne _ _ _ (by decide), g2_at]
  have w11 : g2 (g2 (g2 U 10 c (U 0 4)) 11 c (U 0 5)) 13 c 0 11 c = U 0 5 := by rw [g2_ne _ _ _ (by decide), g2_at]
  have w13 : g2 (g2 (g2 U 10 c (U 0 4)) 11 c (U 0 5)) 13 c 0 13 c = 0 := by rw [g2_at]
  have wC : ∀ j b : Nat, b ≠ c → g2 (g2 (g2 U 10 c (U 0 4)) 11 c (U 0 5)) 13 c 0 j b = U j b := fun j b hb => by rw [g2_col hb, g2_col hb, g2_col hb]
  have e2 : f_M_learn (nI c) U = (1, if U 0 5 = nI c then f_M_takeOver (nI c) (g2 (g2 (g2 U 10 c (U 0 4)) 11 c (U 0 5)) 13 c 0) else g2 (g2 (g2 U 10 c (U 0 4)) 11 c (U 0 5)) 13 c 0) := by
    unfold f_M_learn
    rw [if_neg (show ¬ f_M_isBroker (nI c) = 0 from h), cl4 hc, if_neg h2, if_neg h3]
    by_cases q : U 0 5 = nI c
    · rw [if_pos q, if_pos q]
    · rw [if_neg q, if_neg q]
  generalize g2 (g2 (g2 U 10 c (U 0 4)) 11 c (U 0 5)) 13 c 0 = U1 at hU1 w10 w11 w13 wC e2
  rw [e1, e2, eA]
  refine ⟨rfl, ?_⟩
  by_cases q : U 0 5 = nI c
  · rw [if_pos q, if_pos q]
    show Inv (k + 1) (f_Arr_fill (2 + c + 20) 4 (G 0 6) (f_Arr_fill (2 + c + 16) 4 (-1) (g2 (g2 G1 (2 + c) 10 (G (2 + c + 4) 2)) (2 + c) 11 (G 26 2)))) P (f_M_takeOver (nI c) U1)
    have hV := to_loop (G := U1) hc 5 0 (g2 U1 17 c (U1 3 (U1 7 c).toNatClampNeg)) rfl (by omega)
    rw [nI_0] at hV
    have eV : f_M_takeOver (nI c) U1 = f_M_takeOver_19 (nI c) U1 5 0 (g2 U1 17 c (U1 3 (U1 7 c).toNatClampNeg)) := by
      unfold f_M_takeOver
      rw [cl4 hc]
    rw [eV]
    generalize f_M_takeOver_19 (nI c) U1 5 0 (g2 U1 17 c (U1 3 (U1 7 c).toNatClampNeg)) = V at hV
    obtain ⟨v1, v2, v3⟩ := hV
    have hlast : U1 3 (U1 7 c).toNatClampNeg = nI (dep U (lastN U c)) := by
      rw [hU1 3 (by decide) (by decide) (by decide), hU1 7 (by decide) (by decide) (by decide)]
      exact hI.2.2.2.1.dep_n (hI.2.2.2.2.2.2.1 c hc).1.2
    have h40 := inv_dep hI hc
    have v17 : V 17 c = nI (dep U (lastN U c)) := by rw [v1 17 (by decide) (by decide) (by decide), g2_at, hlast]
    have f20 : ∀ (X : Nat → Nat → Int32) (r : Nat), r ≠ 2 + c + 20 → r ≠ 2 + c + 16 → f_Arr_fill (2 + c + 20) 4 (G 0 6) (f_Arr_fill (2 + c + 16) 4 (-1) X) r = X r := fun X r a1 a2 => by rw [fill_ne (by decide) a1, fill_ne (by decide) a2]
    refine learn_inv hk hI hc h3 (fun r a1 a2 a3 => ?_) (fun j hj => ?_) ?_ ?_ ?_ (fun r a1 a2 a3 a4 a5 a6 a7 => ?_) ?_ ?_ ?_ (fun j b hb hj => ?_) (fun j b m hb hm hj => ?_) (fun _ => ⟨?_, ?_, fun m hm => ?_, fun m hm => ?_⟩) (fun _ => ⟨?_, fun m hm => ?_⟩)
    · rw [f20 _ r a3 a2, g2_ne _ _ _ a1, g2_ne _ _ _ a1, hG1 r a1]
    · rw [f20 _ _ (by omega) (by omega), g2_k _ _ _ (by omega), g2_k _ _ _ (by omega), hK1 j (by omega) (by omega) (by omega)]
    · rw [f20 _ _ (by omega) (by omega), g2_k _ _ _ (by omega), g2_k _ _ _ (by omega), q5]
    · rw [f20 _ _ (by omega) (by omega), g2_k _ _ _ (by omega), g2_k _ _ _ (by omega), q6]
    · rw [f20 _ _ (by omega) (by omega), g2_k _ _ _ (by omega), g2_k _ _ _ (by omega), q9]
    · rw [v1 r a4 a5 a6, g2_ne _ _ _ a7, hU1 r a1 a2 a3]
    · rw [v1 10 (by decide) (by decide) (by decide), g2_ne _ _ _ (by decide), w10]
    · rw [v1 11 (by decide) (by decide) (by decide), g2_ne _ _ _ (by decide), w11]
    · rw [v1 13 (by decide) (by decide) (by decide), g2_ne _ _ _ (by decide), w13]
    · rw [v1 j (by omega) (by omega) (by omega), g2_col hb, wC j b hb]
    · rw [v2 j _ (by omega), g2_ne _ _ _ (by omega), hU1 j (by omega) (by omega) (by omega)]
    · rw [f20 _ _ (by omega) (by omega), g2_k _ _ _ (by omega), g2_at, v17, r2.1]
    · rw [f20 _ _ (by omega) (by omega), g2_at]
      refine isSet_eq s7 (fun m hm => ?_)
      show V 14 (4 * c + m) = U 1 m
      rw [(v3 m (by omega) hm).1, g2_ne _ _ _ (by decide), hU1 1 (by decide) (by decide) (by decide)]
    · rw [fill_ne (by decide) (by omega), fill_at (by decide) hm, (v3 m (by omega) hm).2.1]
    · rw [fill_at (by decide) hm, (v3 m (by omega) hm).2.2, g2_ne _ _ _ (by decide), hU1 0 (by decide) (by decide) (by decide), s3]
    · rw [v17, nI_toInt (by omega)]
      omega
    · rw [(v3 m (by omega) hm).2.1, (v3 m (by omega) hm).1, g2_ne _ _ _ (by decide), hU1 1 (by decide) (by decide) (by decide), im1]
      exact ⟨by omega, hI.2.2.2.2.2.1 m hm⟩
  · rw [if_neg q, if_neg q]
    show Inv (k + 1) G1 P U1
    exact learn_inv hk hI hc h3 (fun r a1 _ _ => hG1 r a1) (fun j hj => hK1 j (by omega) (by omega) (by omega)) q5 q6 q9 (fun r a1 a2 a3 _ _ _ _ => hU1 r a1 a2 a3) w10 w11 w13 (fun j b hb _ => wC j b hb) (fun j b m hb hm hj => by rw [hU1 j (by omega) (by omega) (by omega)]) (fun z => absurd z q) (fun z => absurd z q)
end LEARN
