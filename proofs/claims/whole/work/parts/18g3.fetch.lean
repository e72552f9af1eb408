section FETCH
variable {k : Nat} {G G' U U' : Nat → Nat → Int32} {P : Nat → Nat} {c : Nat}
/-- a broker that isn't its own leader, with a leader known, counts one fetch more and waits -/
theorem wait_inv (hk : k + 1 ≤ 512) (hI : Inv k G P U) (hc : c < 4) (h9 : U 9 c = 1) (h11 : ¬ U 11 c = nI c) (h11' : 0 ≤ (U 11 c).toInt) : Inv (k + 1) (g2 (g2 G (2 + c) 8 (G (2 + c) 8 + 1)) (2 + c) 9 1) P (g2 (g2 U 12 c (U 12 c + 1)) 13 c 1) := by
  obtain ⟨⟨r0, r4, r5, r6, r7, r8, r9⟩, r2, r3⟩ := hI.2.1.2.1 c hc
  obtain ⟨s0, s1, s2, s3, s4, s5, s6, s7⟩ := hI.2.1.1
  obtain ⟨a1, a2, a3, a4, a5, a6, a7, a8, a9, a10, a11, a12, a13⟩ := hI.2.2.2.2.2.2.1 c hc
  have eG : ∀ r : Nat, r ≠ 2 + c → g2 (g2 G (2 + c) 8 (G (2 + c) 8 + 1)) (2 + c) 9 1 r = G r := fun r h => by rw [g2_ne _ _ _ h, g2_ne _ _ _ h]
  have eK : ∀ j : Nat, j ≠ 8 → j ≠ 9 → g2 (g2 G (2 + c) 8 (G (2 + c) 8 + 1)) (2 + c) 9 1 (2 + c) j = G (2 + c) j := fun j h1 h2 => by rw [g2_k _ _ _ h2, g2_k _ _ _ h1]
  have k8 : g2 (g2 G (2 + c) 8 (G (2 + c) 8 + 1)) (2 + c) 9 1 (2 + c) 8 = U 12 c + 1 := by rw [g2_k _ _ _ (by decide), g2_at, r8]
  have k9 : g2 (g2 G (2 + c) 8 (G (2 + c) 8 + 1)) (2 + c) 9 1 (2 + c) 9 = 1 := g2_at _ _ _ _
  generalize g2 (g2 G (2 + c) 8 (G (2 + c) 8 + 1)) (2 + c) 9 1 = G' at eG eK k8 k9 ⊢
  have u : ∀ j : Nat, j ≠ 12 → j ≠ 13 → g2 (g2 U 12 c (U 12 c + 1)) 13 c 1 j = U j := fun j h1 h2 => by rw [g2_ne _ _ _ h2, g2_ne _ _ _ h1]
  have u12 : g2 (g2 U 12 c (U 12 c + 1)) 13 c 1 12 c = U 12 c + 1 := by rw [g2_ne _ _ _ (by decide), g2_at]
  have u13 : g2 (g2 U 12 c (U 12 c + 1)) 13 c 1 13 c = 1 := g2_at _ _ _ _
  have uC : ∀ j b : Nat, b ≠ c → g2 (g2 U 12 c (U 12 c + 1)) 13 c 1 j b = U j b := fun j b hb => by rw [g2_col hb, g2_col hb]
  generalize g2 (g2 U 12 c (U 12 c + 1)) 13 c 1 = U' at u u12 u13 uC ⊢
  have i12 : (U 12 c + 1).toInt = (U 12 c).toInt + 1 := by rw [i_add (by rw [i1]; omega) (by rw [i1]; omega), i1]
  have hT : sameT U U' := ⟨u _ (by decide) (by decide), u _ (by decide) (by decide), u _ (by decide) (by decide), u _ (by decide) (by decide), u _ (by decide) (by decide)⟩
  have hk0 : ¬ U 10 c = 0 := fun q => by
    rw [a8 q, im1] at h11'
    omega
  refine Inv_one (c := c) hk hI ?_ ?_ (fun b hb hbc => ⟨eG _ (by omega), eG _ (by omega), eG _ (by omega), eG _ (by omega), eG _ (by omega), eG _ (by omega)⟩) (fun r hr => eG r (by omega)) hT (fun j _ => by rw [u 0 (by decide) (by decide)]) (fun j b hb _ _ => uC j b hb) (fun b _ => by rw [u 17 (by decide) (by decide)]) (fun b m _ _ => ⟨by rw [u 14 (by decide) (by decide)], by rw [u 15 (by decide) (by decide)], by rw [u 16 (by decide) (by decide)]⟩) (fun j a1 a2 => u j (by omega) (by omega)) (fun _ => ?_) (fun _ => ?_) (fun _ => ?_) (fun _ => ?_) (fun b hb _ hbc e ne => ?_) (fun i hi hf hM => ?_)
  · unfold RS
    rw [eG 0 (by omega), eG 26 (by omega), eG 27 (by omega), u 0 (by decide) (by decide), u 1 (by decide) (by decide)]
    exact ⟨s0, s1, s2, s3, s4, s5, s6, s7⟩
  · rw [u 1 (by decide) (by decide)]
    exact hI.2.2.2.2.2.1
  · unfold RB
    rw [k8, k9, u12, u13, eK 0 (by decide) (by decide), eK 4 (by decide) (by decide), eK 5 (by decide) (by decide), eK 6 (by decide) (by decide), eK 7 (by decide) (by decide), u 9 (by decide) (by decide), u 10 (by decide) (by decide), u 11 (by decide) (by decide), u 8 (by decide) (by decide)]
    exact ⟨r0, r4, r5, r6, r7, rfl, rfl⟩
  · exact RL_fr hT (by rw [u 7 (by decide) (by decide)]) (by rw [eG _ (by omega)]) (eG _ (by omega)) (eG _ (by omega)) r2
  · exact RK_fr (fun j hj => eK j (by omega) (by omega)) (eG _ (by omega)) (eG _ (by omega)) (by rw [u 11 (by decide) (by decide)]) (by rw [u 17 (by decide) (by decide)]) (fun m _ => ⟨by rw [u 14 (by decide) (by decide)], by rw [u 15 (by decide) (by decide)], by rw [u 16 (by decide) (by decide)]⟩) r3
  · unfold okB onPath
    rw [lastN_fr (U := U) (by rw [u 7 (by decide) (by decide)]), recN_fr (U := U) (by rw [u 0 (by decide) (by decide)]), hT.e_dep, hT.e_epo, hT.e_nodeAt, u12, u13, i12, u 0 (by decide) (by decide), u 7 (by decide) (by decide), u 8 (by decide) (by decide), u 9 (by decide) (by decide), u 10 (by decide) (by decide), u 11 (by decide) (by decide), u 14 (by decide) (by decide), u 15 (by decide) (by decide), u 17 (by decide) (by decide)]
    exact ⟨a1, a2, a3, Or.inr rfl, ⟨by omega, by omega⟩, a6, a7, a8, a9, a10, fun _ => ⟨h9, h11, hk0⟩, a12, a13⟩
  · rw [u 10 (by decide) (by decide)] at e ne
    rw [u 11 (by decide) (by decide)]
    exact hI.2.2.2.2.2.2.2.1 b c hb hc e ne
  · refine okM_dead hT (by rw [u 0 (by decide) (by decide)]; exact Int.le_refl _) (by rw [u 0 (by decide) (by decide)]) (fun j b1 b2 => by rw [u j (by omega) (by omega)]) (by rw [hf, u12, i12]; omega) (fun q => ?_) hM
    have q2 := q.2.1
    rw [folN_eq (fun j b1 b2 => by rw [u j (by omega) (by omega)]), hf, u12, u 22 (by decide) (by decide)] at q2
    have m5 := hM.2.2.2.2.1.2
    rw [hf, ← q2, i12] at m5
    omega
theorem sim_fetch : Sim_fetch := by
  intro k G P U x1 x2 hk hI
  by_cases h : f_I_isBroker x1 = 0
  · have e1 : f_I_fetch x1 G P = (0, G) := by unfold f_I_fetch f_I_isUp; rw [if_pos h, if_pos rfl]
    have e2 : f_M_fetch x1 U = (0, U) := by unfold f_M_fetch; rw [if_pos (show f_M_isBroker x1 = 0 from h)]
    rw [e1, e2]
    exact ⟨rfl, Inv_same hk hI⟩
  obtain ⟨c, hc, rfl⟩ := brk h
  obtain ⟨⟨r0, r4, r5, r6, r7, r8, r9⟩, r2, r3⟩ := hI.2.1.2.1 c hc
  have hO := hI.2.2.2.2.2.2.1 c hc
  have hld := leads_eq hI hc
  have hB : ¬ f_M_isBroker (nI c) = 0 := h
  by_cases h2 : U 9 c = 0
  · have e1 : f_I_fetch (nI c) G P = (0, G) := by unfold f_I_fetch; rw [if_pos ((isUp_eq hI hc).mpr h2)]
    have hl0 : f_M_leads (nI c) U = 0 := by unfold f_M_leads; rw [if_neg hB, cl4 hc, if_pos h2]
    have e2 : f_M_fetch (nI c) U = (0, U) := by unfold f_M_fetch; rw [if_neg hB, if_pos hl0, cl4 hc, if_pos h2]
    rw [e1, e2]
    exact ⟨rfl, Inv_same hk hI⟩
  have hup : ¬ f_I_isUp (nI c) G = 0 := fun q => h2 ((isUp_eq hI hc).mp q)
  by_cases h3 : f_M_leads (nI c) U = 0
  · have h11 : ¬ U 11 c = nI c := fun q => by
      unfold f_M_leads at h3
      rw [if_neg hB, cl4 hc, if_neg h2, if_pos q] at h3
      exact one_ne0 h3
    by_cases h4 : U 11 c = -1
    · have e1 : f_I_fetch (nI c) G P = (0, G) := by unfold f_I_fetch; rw [if_neg hup, cl4 hc, ← hld, if_pos h3, r6, if_pos h4]
      have e2 : f_M_fetch (nI c) U = (0, U) := by unfold f_M_fetch; rw [if_neg hB, if_pos h3, cl4 hc, if_neg h2, h4, if_neg (by decide)]
      rw [e1, e2]
      exact ⟨rfl, Inv_same hk hI⟩
    · have hlo : 0 ≤ (U 11 c).toInt := by
        have := lv_neT h4 (a := -1) (by decide)
        have := hO.2.2.2.2.2.2.1.1
        omega
      have h9 : U 9 c = 1 := by
        rcases hO.2.2.1 with z | z
        · exact absurd z h2
        · exact z
      have hI1 := wait_inv hk hI hc h9 h11 hlo
      have e1 : f_I_fetch (nI c) G P = (1, (f_H_send 0 (2 + c) (G (2 + c) 6) (U 12 c + 1) (G (2 + c + 4) 2) (f_L_lastEpoch (2 + c + 4) (g2 (g2 G (2 + c) 8 (G (2 + c) 8 + 1)) (2 + c) 9 1)) (g2 (g2 G (2 + c) 8 (G (2 + c) 8 + 1)) (2 + c) 9 1) P).2) := by
        unfold f_I_fetch
        rw [if_neg hup, cl4 hc, ← hld, if_pos h3, r6, if_neg h4]
        unfold jn
        rw [show g2 (g2 G (2 + c) 8 (G (2 + c) 8 + 1)) (2 + c) 9 1 (2 + c) 6 = U 11 c by rw [g2_k _ _ _ (by decide), g2_k _ _ _ (by decide), r6], show g2 (g2 G (2 + c) 8 (G (2 + c) 8 + 1)) (2 + c) 9 1 (2 + c) 8 = U 12 c + 1 by rw [g2_k _ _ _ (by decide), g2_at, r8], show g2 (g2 G (2 + c) 8 (G (2 + c) 8 + 1)) (2 + c) 9 1 (2 + c + 4) 2 = G (2 + c + 4) 2 by rw [g2_ne _ _ _ (by omega), g2_ne _ _ _ (by omega)]]
      have e2 : f_M_fetch (nI c) U = (1, (f_M_send 0 (nI c) (U 11 c) (U 10 c) (U 12 c + 1) (U 3 (U 7 c).toNatClampNeg) (U 4 (U 7 c).toNatClampNeg) (g2 (g2 U 12 c (U 12 c + 1)) 13 c 1)).2) := by
        unfold f_M_fetch
        rw [if_neg hB, if_pos h3, cl4 hc, if_neg h2, if_pos (by rw [i_le, i0]; exact hlo), g2_at]
      rw [e1, e2]
      refine ⟨rfl, ?_⟩
      have hrec := inv_rec hI
      have hla := hO.1
      have hE1 : f_L_lastEpoch (2 + c + 4) (g2 (g2 G (2 + c) 8 (G (2 + c) 8 + 1)) (2 + c) 9 1) = U 4 (lastN U c) := by
        unfold f_L_lastEpoch
        have hb1 : g2 (g2 G (2 + c) 8 (G (2 + c) 8 + 1)) (2 + c) 9 1 (2 + c + 4) 2 = nI (dep U (lastN U c)) := by rw [g2_ne _ _ _ (by omega), g2_ne _ _ _ (by omega)]; exact r2.1
        rw [hb1]
        have hx := epochOf_d hI hc (Nat.le_refl (dep U (lastN U c)))
        rw [nodeAt_self] at hx
        rw [← hx]
        unfold f_L_epochOf f_L_stampOf f_L_has
        rw [show g2 (g2 G (2 + c) 8 (G (2 + c) 8 + 1)) (2 + c) 9 1 (2 + c + 4) = G (2 + c + 4) by rw [g2_ne _ _ _ (by omega), g2_ne _ _ _ (by omega)], show g2 (g2 G (2 + c) 8 (G (2 + c) 8 + 1)) (2 + c) 9 1 (2 + c + 4 + 4) = G (2 + c + 4 + 4) by rw [g2_ne _ _ _ (by omega), g2_ne _ _ _ (by omega)]]
      rw [hE1, r6, r2.1]
      rw [hla.1, nI_clamp (by omega), hI.2.2.2.1.dep_n hla.2]
      have u : ∀ j : Nat, j ≠ 12 → j ≠ 13 → g2 (g2 U 12 c (U 12 c + 1)) 13 c 1 j = U j := fun j h1 h2 => by rw [g2_ne _ _ _ h2, g2_ne _ _ _ h1]
      have u12 : g2 (g2 U 12 c (U 12 c + 1)) 13 c 1 12 c = U 12 c + 1 := by rw [g2_ne _ _ _ (by decide), g2_at]
      have g0 : g2 (g2 G (2 + c) 8 (G (2 + c) 8 + 1)) (2 + c) 9 1 (2 + c) 0 = nI c := by rw [g2_k _ _ _ (by decide), g2_k _ _ _ (by decide), r0]
      have g5 : g2 (g2 G (2 + c) 8 (G (2 + c) 8 + 1)) (2 + c) 9 1 (2 + c) 5 = U 10 c := by rw [g2_k _ _ _ (by decide), g2_k _ _ _ (by decide), r5]
      generalize g2 (g2 G (2 + c) 8 (G (2 + c) 8 + 1)) (2 + c) 9 1 = G1 at hI1 g0 g5 ⊢
      generalize g2 (g2 U 12 c (U 12 c + 1)) 13 c 1 = U1 at hI1 u u12 ⊢
      obtain ⟨n, hn8, hn, hnn⟩ := cnt_n hI1
      have h27 : G1 27 1 = nI n := by rw [hI1.2.1.1.2.2.2.2.2.2.1]; exact hn
      by_cases hfull : n = 8
      · subst hfull
        rw [sendC8 h27, sendM8 hn]
        exact hI1
      · obtain ⟨G2, eC, c1, c2, c3, c4, c5, c6, c7, c8, c9⟩ := sendC (P := P) (x1 := 0) (x3 := U 11 c) (x4 := U 12 c + 1) (x5 := nI (dep U (lastN U c))) (x6 := U 4 (lastN U c)) h27 (by omega) (show 2 + c < 27 by omega)
        obtain ⟨U2, eM, m1, m2, m3, m4, w0, w1, w2, w3, w4, w5, w6, w7⟩ := sendM (x1 := 0) (x2 := nI c) (x3 := U 11 c) (x4 := U 10 c) (x5 := U 12 c + 1) (x6 := nI (dep U (lastN U c))) (x7 := U 4 (lastN U c)) hn (by omega)
        rw [eC, eM]
        show Inv (k + 1) G2 P U2
        have h40 := inv_dep hI hc
        have hT := hI.2.2.2.1
        have hin : vp_in (U 11 c) 4 := by rw [vp_in_iff]; exact ⟨hlo, hO.2.2.2.2.2.2.1.2⟩
        have hep := hT.epo_nn hla.2
        have hfo : folN U2 n = c := by unfold folN; rw [w0, if_pos rfl, w1, cl4 hc]
        have hk0 : ¬ U 10 c = 0 := fun q => h4 (hO.2.2.2.2.2.2.2.1 q)
        have hk1 := lv_neT hk0 (a := 0) (by decide)
        have hr2 : recN U2 = recN U := by unfold recN; rw [m2 7 (by decide), u 0 (by decide) (by decide)]
        have hO1 := hI1.2.2.2.2.2.2.1 c hc
        refine send_inv hI1 hn (by omega) rfl (fun r a1 a2 _ _ => c1 r a1 a2) c2 ⟨by rw [c5]; exact hin, by rw [c4, g0]; exact vp_in_nI hc (by decide)⟩ (fun j a1 a2 => m1 j a1 (by omega)) m2 m3 m4 ⟨fun w hw => ?_, fun q => ?_⟩ ⟨Or.inl w0, by rw [w1]; exact vp_in_nI hc (by decide), by rw [w2]; exact hin, ?_, ?_, ?_, ?_, fun q => ?_, ?_, fun _ => ⟨fun q => ?_, fun _ => ?_⟩, fun q => ?_⟩ ⟨by rw [w2]; exact hin, by rw [w1]; exact vp_in_nI hc (by decide), ?_, by rw [w7]; exact in0_520⟩
        · rcases (show w = 0 ∨ w = 1 ∨ w = 2 ∨ w = 3 ∨ w = 4 ∨ w = 5 ∨ w = 6 by omega) with e | e | e | e | e | e | e <;> subst e
          · rw [c3, w0]
          · rw [c4, w1, g0]
          · rw [c5, w2]
          · rw [c6, w3, g5]
          · rw [c7, w4]
          · rw [c8, w5]
          · rw [c9, w6]
        · rw [w0] at q
          exact absurd q (by decide)
        · rw [w3, m2 4 (by decide), u 0 (by decide) (by decide)]
          have := hO.2.2.2.2.2.1
          omega
        · rw [hfo, w4, m1 12 (by decide) (by decide), u12]
          have := hO1.2.2.2.2.1.1
          rw [u12] at this
          exact ⟨this, Int.le_refl _⟩
        · rw [w5, nI_toInt (by omega)]
          omega
        · rw [w6]
          exact hep
        · rw [w0] at q
          exact absurd q (by decide)
        · rw [w7, hr2]
          exact ⟨by decide, by rw [show (0 : Int32).toNatClampNeg = 0 by decide]; omega⟩
        · rw [w5] at q
          rw [w6]
          have hz : dep U (lastN U c) = 0 := by
            have := congrArg Int32.toInt q
            rw [nI_toInt (by omega), i0] at this
            omega
          rw [hT.zero hla.2 hz, hT.2.1.2.2.1]
        · rw [w5, w6, hfo, m1 3 (by decide) (by decide), m1 4 (by decide) (by decide), u 3 (by decide) (by decide), u 4 (by decide) (by decide), show lastN U2 c = lastN U c from lastN_fr (by rw [m1 7 (by decide) (by decide), u 7 (by decide) (by decide)]), hT.dep_n hla.2]
          exact ⟨rfl, rfl⟩
        · rw [w0] at q
          exact absurd q (by decide)
        · rw [w5, nI_toInt (by omega)]
          omega
  · have e1 : f_I_fetch (nI c) G P = (0, G) := by unfold f_I_fetch; rw [if_neg hup, cl4 hc, ← hld, if_neg h3]
    have e2 : f_M_fetch (nI c) U = (0, U) := by unfold f_M_fetch; rw [if_neg hB, if_neg h3]
    rw [e1, e2]
    exact ⟨rfl, Inv_same hk hI⟩
end FETCH
