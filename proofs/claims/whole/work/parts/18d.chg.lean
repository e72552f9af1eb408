/-! restart, crash, learn. -/
theorem g2_col {X : Nat → Nat → Int32} {r c j b : Nat} {v : Int32} (h : b ≠ c) : g2 X r c v j b = X j b := by
  by_cases hj : j = r
  · subst hj
    rw [g2_k _ _ _ h]
  · rw [g2_ne _ _ _ hj]
theorem g2_same (X : Nat → Nat → Int32) (n k : Nat) : g2 X n k (X n k) = X := by
  funext r j
  by_cases hr : r = n
  · subst hr
    by_cases hj : j = k
    · subst hj
      rw [g2_at]
    · rw [g2_k _ _ _ hj]
  · rw [g2_ne _ _ _ hr]
section CHG
variable {k : Nat} {G G' U U' : Nat → Nat → Int32} {P : Nat → Nat} {c i : Nat}
/-- a message whose answer nobody waits for -/
theorem okM_dead (hT : sameT U U') (h4 : (U 0 4).toInt ≤ (U' 0 4).toInt) (h7 : U' 0 7 = U 0 7) (hm : ∀ j : Nat, 18 ≤ j → j ≤ 25 → U' j i = U j i) (h12 : (U 12 (folN U i)).toInt ≤ (U' 12 (folN U i)).toInt) (hl : ¬ live U' i) (h : okM U i) : okM U' i := by
  have e0 : folN U' i = folN U i := by unfold folN; rw [hm 18 (by omega) (by omega), hm 19 (by omega) (by omega), hm 20 (by omega) (by omega)]
  have e2 := recN_fr h7
  obtain ⟨a1, a2, a3, a4, a5, a6, a7, a8, a9, a10, a11⟩ := h
  unfold okM
  rw [e0, e2, hT.e_dep, hT.e_epo, hT.e_nodeAt, hT.2.1, hT.2.2.1, hm 18 (by omega) (by omega), hm 19 (by omega) (by omega), hm 20 (by omega) (by omega), hm 21 (by omega) (by omega), hm 22 (by omega) (by omega), hm 23 (by omega) (by omega), hm 24 (by omega) (by omega), hm 25 (by omega) (by omega)]
  exact ⟨a1, a2, a3, ⟨a4.1, by omega⟩, ⟨a5.1, by omega⟩, a6, a7, a8, a9, fun q => ⟨(a10 q).1, fun z => absurd z hl⟩, fun q => ⟨(a11 q).1, (a11 q).2.1, (a11 q).2.2.1, fun z => absurd z hl⟩⟩
theorem folN_eq (hm : ∀ j : Nat, 18 ≤ j → j ≤ 25 → U' j i = U j i) : folN U' i = folN U i := by unfold folN; rw [hm 18 (by omega) (by omega), hm 19 (by omega) (by omega), hm 20 (by omega) (by omega)]
theorem sim_restart : Sim_restart := by
  intro k G P U x1 x2 hk hI
  by_cases h : f_I_isBroker x1 = 0
  · have e1 : f_I_restart x1 G = (0, G) := by unfold f_I_restart; rw [if_pos h]
    have e2 : f_M_restart x1 U = (0, U) := by unfold f_M_restart; rw [if_pos (show f_M_isBroker x1 = 0 from h)]
    rw [e1, e2]
    exact ⟨rfl, Inv_same hk hI⟩
  · obtain ⟨c, hc, rfl⟩ := brk h
    obtain ⟨⟨r0, r4, r5, r6, r7, r8, r9⟩, r2, r3⟩ := hI.2.1.2.1 c hc
    have hB := hI.2.2.2.2.2.2.1 c hc
    by_cases h2 : U 9 c = 0
    · have e1 : f_I_restart (nI c) G = (1, g2 G (2 + c) 4 1) := by unfold f_I_restart; rw [if_neg h, cl4 hc, r4, if_pos h2]
      have e2 : f_M_restart (nI c) U = (1, g2 U 9 c 1) := by unfold f_M_restart; rw [if_neg (show ¬ f_M_isBroker (nI c) = 0 from h), cl4 hc, if_pos h2]
      rw [e1, e2]
      refine ⟨rfl, ?_⟩
      show Inv (k + 1) (g2 G (2 + c) 4 1) P (g2 U 9 c 1)
      have eG : ∀ r : Nat, r ≠ 2 + c → g2 G (2 + c) 4 1 r = G r := fun r h => g2_ne _ _ _ h
      have eK : ∀ j : Nat, j ≠ 4 → g2 G (2 + c) 4 1 (2 + c) j = G (2 + c) j := fun j h => g2_k _ _ _ h
      have eU : ∀ r : Nat, r ≠ 9 → g2 U 9 c 1 r = U r := fun r h => g2_ne _ _ _ h
      have hT : sameT U (g2 U 9 c 1) := ⟨eU _ (by decide), eU _ (by decide), eU _ (by decide), eU _ (by decide), eU _ (by decide)⟩
      obtain ⟨s0, s1, s2, s3, s4, s5, s6, s7⟩ := hI.2.1.1
      refine Inv_one (c := c) hk hI ?_ ?_ (fun b hb hbc => ⟨eG _ (by omega), eG _ (by omega), eG _ (by omega), eG _ (by omega), eG _ (by omega), eG _ (by omega)⟩) (fun r hr => eG r (by omega)) hT (fun j _ => by rw [eU 0 (by decide)]) (fun j b hb _ _ => g2_col hb) (fun b _ => by rw [eU 17 (by decide)]) (fun b m _ _ => ⟨by rw [eU 14 (by decide)], by rw [eU 15 (by decide)], by rw [eU 16 (by decide)]⟩) (fun j _ _ => eU j (by omega)) (fun _ => ?_) (fun _ => ?_) (fun _ => ?_) (fun _ => ?_) (fun b hb _ hbc e ne => ?_) (fun i hi hf hM => ?_)
      · unfold RS
        rw [eG 0 (by omega), eG 26 (by omega), eG 27 (by omega), eU 0 (by decide), eU 1 (by decide)]
        exact ⟨s0, s1, s2, s3, s4, s5, s6, s7⟩
      · rw [eU 1 (by decide)]
        exact hI.2.2.2.2.2.1
      · unfold RB
        rw [g2_at, g2_at, eK 0 (by decide), eK 5 (by decide), eK 6 (by decide), eK 7 (by decide), eK 8 (by decide), eK 9 (by decide), eU 10 (by decide), eU 11 (by decide), eU 8 (by decide), eU 12 (by decide), eU 13 (by decide)]
        exact ⟨r0, rfl, r5, r6, r7, r8, r9⟩
      · exact RL_fr hT (by rw [eU 7 (by decide)]) (by rw [eG _ (by omega)]) (eG _ (by omega)) (eG _ (by omega)) r2
      · exact RK_fr (fun j hj => eK j (by omega)) (eG _ (by omega)) (eG _ (by omega)) (by rw [eU 11 (by decide)]) (by rw [eU 17 (by decide)]) (fun m _ => ⟨by rw [eU 14 (by decide)], by rw [eU 15 (by decide)], by rw [eU 16 (by decide)]⟩) r3
      · obtain ⟨a1, a2, a3, a4, a5, a6, a7, a8, a9, a10, a11, a12, a13⟩ := hB
        unfold okB onPath
        rw [lastN_fr (U := U) (by rw [eU 7 (by decide)]), recN_fr (U := U) (by rw [eU 0 (by decide)]), hT.e_dep, hT.e_epo, hT.e_nodeAt, g2_at, eU 0 (by decide), eU 7 (by decide), eU 8 (by decide), eU 10 (by decide), eU 11 (by decide), eU 12 (by decide), eU 13 (by decide), eU 14 (by decide), eU 15 (by decide), eU 17 (by decide)]
        exact ⟨a1, a2, Or.inr rfl, a4, ⟨a5.1, by omega⟩, a6, a7, a8, a9, a10, fun q => ⟨rfl, (a11 q).2⟩, a12, a13⟩
      · rw [eU 10 (by decide)] at e ne
        rw [eU 11 (by decide)]
        exact hI.2.2.2.2.2.2.2.1 b c hb hc e ne
      · exact okM_fr hT (by rw [eU 0 (by decide)]) (by rw [eU 0 (by decide)]) (fun j _ _ => by rw [eU j (by omega)]) (fun j hj => by rw [eU j (by omega)]) hM
    · have h9 : U 9 c = 1 := by
        rcases hB.2.2.1 with z | z
        · exact absurd z h2
        · exact z
      have e1 : f_I_restart (nI c) G = (0, G) := by unfold f_I_restart; rw [if_neg h, cl4 hc, r4, if_neg h2]
      have e2 : f_M_restart (nI c) U = (0, U) := by
        unfold f_M_restart
        rw [if_neg (show ¬ f_M_isBroker (nI c) = 0 from h), cl4 hc, if_neg h2]
        rw [show g2 U 9 c 1 = U by rw [← h9]; exact g2_same U 9 c]
      rw [e1, e2]
      exact ⟨rfl, Inv_same hk hI⟩
theorem isUp_eq (hI : Inv k G P U) {c : Nat} (hc : c < 4) : (f_I_isUp (nI c) G = 0) ↔ U 9 c = 0 := by
  obtain ⟨r0, r4, _⟩ := (hI.2.1.2.1 c hc).1
  unfold f_I_isUp
  rw [sB_of hc, if_neg one_ne0, cl4 hc, r4]
  by_cases h : U 9 c = 0
  · rw [if_pos h]
    exact ⟨fun _ => h, fun _ => rfl⟩
  · rw [if_neg h]
    exact ⟨fun q => absurd q one_ne0, fun q => absurd q h⟩
theorem sim_crash : Sim_crash := by
  intro k G P U x1 x2 hk hI
  by_cases h : f_I_isBroker x1 = 0
  · have e1 : f_I_crash x1 G = (0, G) := by unfold f_I_crash f_I_isUp; rw [if_pos h, if_pos rfl]
    have e2 : f_M_crash x1 U = (0, U) := by unfold f_M_crash; rw [if_pos (show f_M_isBroker x1 = 0 from h)]
    rw [e1, e2]
    exact ⟨rfl, Inv_same hk hI⟩
  · obtain ⟨c, hc, rfl⟩ := brk h
    obtain ⟨⟨r0, r4, r5, r6, r7, r8, r9⟩, r2, r3⟩ := hI.2.1.2.1 c hc
    have hB := hI.2.2.2.2.2.2.1 c hc
    by_cases h2 : U 9 c = 0
    · have e1 : f_I_crash (nI c) G = (0, G) := by unfold f_I_crash; rw [if_pos ((isUp_eq hI hc).mpr h2)]
      have e2 : f_M_crash (nI c) U = (0, U) := by unfold f_M_crash; rw [if_neg (show ¬ f_M_isBroker (nI c) = 0 from h), cl4 hc, if_pos h2]
      rw [e1, e2]
      exact ⟨rfl, Inv_same hk hI⟩
    · have e1 : f_I_crash (nI c) G = (1, f_B_goDown (2 + c) G) := by unfold f_I_crash; rw [if_neg (fun q => h2 ((isUp_eq hI hc).mp q)), cl4 hc]
      have e2 : f_M_crash (nI c) U = (1, g2 (g2 (g2 (g2 U 9 c 0) 10 c 0) 11 c (-1)) 13 c 0) := by unfold f_M_crash; rw [if_neg (show ¬ f_M_isBroker (nI c) = 0 from h), cl4 hc, if_neg h2]
      rw [e1, e2]
      refine ⟨rfl, ?_⟩
      show Inv (k + 1) (f_B_goDown (2 + c) G) P (g2 (g2 (g2 (g2 U 9 c 0) 10 c 0) 11 c (-1)) 13 c 0)
      have eG : ∀ r : Nat, r ≠ 2 + c → f_B_goDown (2 + c) G r = G r := fun r h => by
        unfold f_B_goDown
        rw [g2_ne _ _ _ h, g2_ne _ _ _ h, g2_ne _ _ _ h, g2_ne _ _ _ h]
      have eK : ∀ j : Nat, j ≠ 4 → j ≠ 5 → j ≠ 6 → j ≠ 9 → f_B_goDown (2 + c) G (2 + c) j = G (2 + c) j := fun j h4 h5 h6 h9 => by
        unfold f_B_goDown
        rw [g2_k _ _ _ h9, g2_k _ _ _ h6, g2_k _ _ _ h5, g2_k _ _ _ h4]
      have k4 : f_B_goDown (2 + c) G (2 + c) 4 = 0 := by unfold f_B_goDown; rw [g2_k _ _ _ (by decide), g2_k _ _ _ (by decide), g2_k _ _ _ (by decide), g2_at]
      have k5 : f_B_goDown (2 + c) G (2 + c) 5 = 0 := by unfold f_B_goDown; rw [g2_k _ _ _ (by decide), g2_k _ _ _ (by decide), g2_at]
      have k6 : f_B_goDown (2 + c) G (2 + c) 6 = -1 := by unfold f_B_goDown; rw [g2_k _ _ _ (by decide), g2_at]
      have k9 : f_B_goDown (2 + c) G (2 + c) 9 = 0 := by unfold f_B_goDown; rw [g2_at]
      generalize f_B_goDown (2 + c) G = G' at eG eK k4 k5 k6 k9 ⊢
      have eU : ∀ r : Nat, r ≠ 9 → r ≠ 10 → r ≠ 11 → r ≠ 13 → g2 (g2 (g2 (g2 U 9 c 0) 10 c 0) 11 c (-1)) 13 c 0 r = U r := fun r h1 h2 h3 h4 => by rw [g2_ne _ _ _ h4, g2_ne _ _ _ h3, g2_ne _ _ _ h2, g2_ne _ _ _ h1]
      have u9 : g2 (g2 (g2 (g2 U 9 c 0) 10 c 0) 11 c (-1)) 13 c 0 9 c = 0 := by rw [g2_ne _ _ _ (by decide), g2_ne _ _ _ (by decide), g2_ne _ _ _ (by decide), g2_at]
      have u10 : g2 (g2 (g2 (g2 U 9 c 0) 10 c 0) 11 c (-1)) 13 c 0 10 c = 0 := by rw [g2_ne _ _ _ (by decide), g2_ne _ _ _ (by decide), g2_at]
      have u11 : g2 (g2 (g2 (g2 U 9 c 0) 10 c 0) 11 c (-1)) 13 c 0 11 c = -1 := by rw [g2_ne _ _ _ (by decide), g2_at]
      have u13 : g2 (g2 (g2 (g2 U 9 c 0) 10 c 0) 11 c (-1)) 13 c 0 13 c = 0 := by rw [g2_at]
      have uC : ∀ j b : Nat, b ≠ c → g2 (g2 (g2 (g2 U 9 c 0) 10 c 0) 11 c (-1)) 13 c 0 j b = U j b := fun j b hb => by rw [g2_col hb, g2_col hb, g2_col hb, g2_col hb]
      generalize g2 (g2 (g2 (g2 U 9 c 0) 10 c 0) 11 c (-1)) 13 c 0 = U' at eU u9 u10 u11 u13 uC ⊢
      have hT : sameT U U' := ⟨eU _ (by decide) (by decide) (by decide) (by decide), eU _ (by decide) (by decide) (by decide) (by decide), eU _ (by decide) (by decide) (by decide) (by decide), eU _ (by decide) (by decide) (by decide) (by decide), eU _ (by decide) (by decide) (by decide) (by decide)⟩
      have z0 : U' 0 = U 0 := eU 0 (by decide) (by decide) (by decide) (by decide)
      have z1 : U' 1 = U 1 := eU 1 (by decide) (by decide) (by decide) (by decide)
      have z7 : U' 7 = U 7 := eU 7 (by decide) (by decide) (by decide) (by decide)
      have z8 : U' 8 = U 8 := eU 8 (by decide) (by decide) (by decide) (by decide)
      have z12 : U' 12 = U 12 := eU 12 (by decide) (by decide) (by decide) (by decide)
      have z14 : U' 14 = U 14 := eU 14 (by decide) (by decide) (by decide) (by decide)
      have z15 : U' 15 = U 15 := eU 15 (by decide) (by decide) (by decide) (by decide)
      have z16 : U' 16 = U 16 := eU 16 (by decide) (by decide) (by decide) (by decide)
      have z17 : U' 17 = U 17 := eU 17 (by decide) (by decide) (by decide) (by decide)
      have zM : ∀ j : Nat, 18 ≤ j → j ≤ 25 → U' j = U j := fun j h1 h2 => eU j (by omega) (by omega) (by omega) (by omega)
      have hne : ¬ (-1 : Int32) = nI c := fun q => by
        have := congrArg Int32.toInt q
        rw [im1, nI_toInt (by omega)] at this
        omega
      obtain ⟨s0, s1, s2, s3, s4, s5, s6, s7⟩ := hI.2.1.1
      refine Inv_one (c := c) hk hI ?_ ?_ (fun b hb hbc => ⟨eG _ (by omega), eG _ (by omega), eG _ (by omega), eG _ (by omega), eG _ (by omega), eG _ (by omega)⟩) (fun r hr => eG r (by omega)) hT (fun j _ => by rw [z0]) (fun j b hb _ _ => uC j b hb) (fun b _ => by rw [z17]) (fun b m _ _ => ⟨by rw [z14], by rw [z15], by rw [z16]⟩) zM (fun _ => ?_) (fun _ => ?_) (fun _ => ?_) (fun _ => ?_) (fun b hb _ hbc e ne => ?_) (fun i hi hf hM => ?_)
      · unfold RS
        rw [eG 0 (by omega), eG 26 (by omega), eG 27 (by omega), z0, z1]
        exact ⟨s0, s1, s2, s3, s4, s5, s6, s7⟩
      · rw [z1]
        exact hI.2.2.2.2.2.1
      · unfold RB
        rw [k4, k5, k6, k9, u9, u10, u11, u13, eK 0 (by decide) (by decide) (by decide) (by decide), eK 7 (by decide) (by decide) (by decide) (by decide), eK 8 (by decide) (by decide) (by decide) (by decide), z8, z12]
        exact ⟨r0, rfl, rfl, rfl, r7, r8, rfl⟩
      · exact RL_fr hT (by rw [z7]) (by rw [eG _ (by omega)]) (eG _ (by omega)) (eG _ (by omega)) r2
      · intro q
        rw [u11] at q
        exact absurd q hne
      · obtain ⟨a1, a2, a3, a4, a5, a6, a7, a8, a9, a10, a11, a12, a13⟩ := hB
        have hce := hI.2.2.1.2.2.2.1
        unfold okB onPath
        rw [lastN_fr (U := U) (by rw [z7]), recN_fr (U := U) (by rw [z0]), hT.e_dep, hT.e_epo, hT.e_nodeAt, u9, u10, u11, u13, z0, z7, z8, z12]
        refine ⟨a1, a2, Or.inl rfl, Or.inl rfl, ⟨a5.1, by omega⟩, ⟨by decide, by rw [i0]; omega⟩, ⟨by decide, by decide⟩, fun _ => rfl, fun q => ?_, fun q => absurd rfl q, fun q => absurd q (by decide), fun q => absurd q hne, fun q => ⟨(a13 q).1, fun z => absurd rfl z⟩⟩
        rw [← q, i0] at hce
        omega
      · rw [u10] at e
        exact absurd e ne
      · refine okM_dead hT (by rw [z0]; exact Int.le_refl _) (by rw [z0]) (fun j a1 a2 => by rw [zM j a1 a2]) (by rw [z12]; exact Int.le_refl _) (fun q => ?_) hM
        have := q.1
        rw [folN_eq (fun j a1 a2 => by rw [zM j a1 a2]), hf, u13] at this
        exact absurd this (by decide)
end CHG
