section DEL2
variable {k : Nat} {G U : Nat → Nat → Int32} {P : Nat → Nat} {b q : Nat}
theorem accept_sim (hI : Inv k G P U) (hb : b < 4) (hq : 29 ≤ q) (hw : ∀ w : Nat, w < 7 → G q (2 + w) = U 26 w) (hkd : U 26 0 = 1 ∨ U 26 0 = 2) (h5 : 0 ≤ (U 26 5).toInt ∧ (U 26 5).toInt ≤ 40)
    (h2 : U 26 0 = 2 → (0 ≤ (U 26 6).toInt ∧ (U 26 6).toInt ≤ 40) ∧ (U 26 5).toInt ≤ 3 ∧ ∃ ld : Nat, U 26 7 = nI ld ∧ ld ≤ recN U ∧ (U 26 5).toNatClampNeg ≤ dep U ld ∧ epo U ld ≤ (U 26 3).toInt ∧ (U 13 b = 1 → U 12 b = U 26 4 → U 10 b = U 26 3 → nodeAt U ld (dep U ld - (U 26 5).toNatClampNeg) = lastN U b) ∧ ∀ j : Nat, j < (U 26 5).toNatClampNeg → G (q + 9) j = stampN U (nodeAt U ld (dep U ld - (U 26 5).toNatClampNeg + j + 1)) ∧ G (q + 18) j = U 5 (nodeAt U ld (dep U ld - (U 26 5).toNatClampNeg + j + 1))) :
    (dT U (nI b)).1 = 1 ∧ Inv k (f_B_accept (2 + b) q G) P (dT U (nI b)).2 := by
  obtain ⟨⟨r0, r4, r5, r6, r7, r8, r9⟩, r2, r3⟩ := hI.2.1.2.1 b hb
  have hO := hI.2.2.2.2.2.2.1 b hb
  have hld := leads_eq hI hb
  have q2 := hw 0 (by decide)
  have q5 := hw 3 (by decide)
  have q6 := hw 4 (by decide)
  have q7 := hw 5 (by decide)
  have q8 := hw 6 (by decide)
  have hk0 : ¬ U 26 0 ≤ 0 := by
    rcases hkd with z | z <;> rw [z] <;> decide
  have hno : f_B_isExpecting (2 + b) q G = 0 → dT U (nI b) = (1, U) → (dT U (nI b)).1 = 1 ∧ Inv k (f_B_accept (2 + b) q G) P (dT U (nI b)).2 := fun z1 z2 => by
    have e1 : f_B_accept (2 + b) q G = G := by unfold f_B_accept; rw [if_pos z1]
    rw [e1, z2]
    exact ⟨rfl, hI⟩
  by_cases h9 : U 9 b = 0
  · refine hno ?_ ?_
    · unfold f_B_isExpecting; rw [r4, if_pos h9]
    · unfold dT; rw [if_neg hk0, cl4 hb, if_pos h9]
  by_cases hl : f_M_leads (nI b) U = 0
  · by_cases h3 : U 10 b = U 26 3
    · by_cases h13 : U 13 b = 0
      · refine hno ?_ ?_
        · unfold f_B_isExpecting; rw [r4, if_neg h9, ← hld, if_pos hl, r5, q5, if_pos h3, r9, if_pos h13]
        · unfold dT; rw [if_neg hk0, cl4 hb, if_neg h9, if_pos h3, if_pos hl, if_pos h13]
      · by_cases h12 : U 12 b = U 26 4
        · have a13 : U 13 b = 1 := by
            rcases hO.2.2.2.1 with z | z
            · exact absurd z h13
            · exact z
          obtain ⟨y9, y11, y10⟩ := hO.2.2.2.2.2.2.2.2.2.2.1 a13
          have eX : ¬ f_B_isExpecting (2 + b) q G = 0 := by
            unfold f_B_isExpecting
            rw [r4, if_neg h9, ← hld, if_pos hl, r5, q5, if_pos h3, r9, if_neg h13, r8, q6, if_pos h12]
            exact one_ne0
          have hI2 := unwait_inv hI hb
          have gq : ∀ j : Nat, g2 G (2 + b) 9 0 q j = G q j := fun j => by rw [g2_ne _ _ _ (by omega)]
          have u : ∀ j : Nat, j ≠ 13 → g2 U 13 b 0 j = U j := fun j h => g2_ne _ _ _ h
          have u13 : g2 U 13 b 0 13 b = 0 := g2_at _ _ _ _
          have hT2 : sameT U (g2 U 13 b 0) := ⟨u _ (by decide), u _ (by decide), u _ (by decide), u _ (by decide), u _ (by decide)⟩
          obtain ⟨av, hav, eav⟩ := nI_of (x := U 26 5) (by rw [i_lt, i0]; omega)
          have hac : (U 26 5).toNatClampNeg = av := by rw [eav, nI_clamp hav]
          rw [eav, nI_toInt hav] at h5
          by_cases hk1 : U 26 0 = 1
          · have eM : dT U (nI b) = (1, f_M_cut (nI b) (g2 U 13 b 0)) := by
              unfold dT; rw [if_neg hk0, cl4 hb, if_neg h9, if_pos h3, if_pos hl, if_neg h13, if_pos h12, if_pos hk1]
            have eC : f_B_accept (2 + b) q G = f_L_cutTo (2 + b + 4) (if f_L_countUpTo (2 + b + 4) (U 26 6) (g2 G (2 + b) 9 0) < nI av then f_L_countUpTo (2 + b + 4) (U 26 6) (g2 G (2 + b) 9 0) else nI av) (g2 G (2 + b) 9 0) := by
              unfold f_B_accept
              rw [if_neg eX, gq, gq, gq, q2, if_pos hk1, q8, q7, eav]
            rw [eM, eC]
            exact ⟨rfl, cut_sim hI2 hb u13 (by rw [u 11 (by decide)]; exact y11) (by rw [u 10 (by decide)]; exact y10) (by omega) (by rw [u 26 (by decide)]; exact eav) (by rw [u 26 (by decide)])⟩
          · have hk2 : U 26 0 = 2 := by
              rcases hkd with z | z
              · exact absurd z hk1
              · exact z
            obtain ⟨h6, h53, ld, w7, hlr, hdl, hep, hat, hR⟩ := h2 hk2
            rw [hac] at hdl hat hR
            rw [eav, nI_toInt hav] at h53
            have eM : dT U (nI b) = (1, f_M_extend (nI b) (g2 U 13 b 0)) := by
              unfold dT; rw [if_neg hk0, cl4 hb, if_neg h9, if_pos h3, if_pos hl, if_neg h13, if_pos h12, if_neg hk1]
            have hx := ext_sim hI2 hb u13 (by rw [u 11 (by decide)]; exact y11) (by rw [u 10 (by decide)]; exact y10) (q := q) (a := av) (ld := ld) (e := U 26 6) hq (by omega) (by rw [gq, q7, eav]) (by rw [gq, q8]) h6 (by rw [u 26 (by decide)]; exact eav) (by rw [u 26 (by decide)]) (by rw [u 26 (by decide)]; exact w7) (by rw [recN_fr (U := U) (by rw [u 0 (by decide)])]; exact hlr) (by rw [hT2.e_dep]; exact hdl) (by rw [hT2.e_epo, u 10 (by decide), h3]; exact hep) (by rw [hT2.e_dep, hT2.e_nodeAt, show lastN (g2 U 13 b 0) b = lastN U b from lastN_fr (by rw [u 7 (by decide)])]; exact hat a13 h12 h3) (fun j hj => by rw [hT2.e_dep, hT2.e_nodeAt, hT2.e_stampN, u 5 (by decide), g2_ne _ _ _ (by omega), g2_ne _ _ _ (by omega)]; exact hR j hj)
            have eC : f_B_accept (2 + b) q G = g2 (f_G_appendRecords q (2 + b + 4) (g2 G (2 + b) 9 0)) (2 + b) 7 (if (f_G_appendRecords q (2 + b + 4) (g2 G (2 + b) 9 0)) (2 + b) 7 < (if (f_G_appendRecords q (2 + b + 4) (g2 G (2 + b) 9 0)) (2 + b + 4) 2 < (f_G_appendRecords q (2 + b + 4) (g2 G (2 + b) 9 0)) q 8 then (f_G_appendRecords q (2 + b + 4) (g2 G (2 + b) 9 0)) (2 + b + 4) 2 else (f_G_appendRecords q (2 + b + 4) (g2 G (2 + b) 9 0)) q 8) then (if (f_G_appendRecords q (2 + b + 4) (g2 G (2 + b) 9 0)) (2 + b + 4) 2 < (f_G_appendRecords q (2 + b + 4) (g2 G (2 + b) 9 0)) q 8 then (f_G_appendRecords q (2 + b + 4) (g2 G (2 + b) 9 0)) (2 + b + 4) 2 else (f_G_appendRecords q (2 + b + 4) (g2 G (2 + b) 9 0)) q 8) else (f_G_appendRecords q (2 + b + 4) (g2 G (2 + b) 9 0)) (2 + b) 7) := by
              unfold f_B_accept
              rw [if_neg eX, gq 2, q2, if_neg hk1]
            rw [eM, eC]
            exact ⟨rfl, hx⟩
        · refine hno ?_ ?_
          · unfold f_B_isExpecting; rw [r4, if_neg h9, ← hld, if_pos hl, r5, q5, if_pos h3, r9, if_neg h13, r8, q6, if_neg h12]
          · unfold dT; rw [if_neg hk0, cl4 hb, if_neg h9, if_pos h3, if_pos hl, if_neg h13, if_neg h12]
    · refine hno ?_ ?_
      · unfold f_B_isExpecting; rw [r4, if_neg h9, ← hld, if_pos hl, r5, q5, if_neg h3]
      · unfold dT; rw [if_neg hk0, cl4 hb, if_neg h9, if_neg h3]
  · refine hno ?_ ?_
    · unfold f_B_isExpecting; rw [r4, if_neg h9, ← hld, if_neg hl]
    · unfold dT; rw [if_neg hk0, cl4 hb, if_neg h9]
      by_cases h3 : U 10 b = U 26 3
      · rw [if_pos h3, if_neg hl]
      · rw [if_neg h3]
theorem dT0 {W : Nat → Nat → Int32} {x : Int32} (h : W 26 0 = 0) : dT W x = (1, W) := by
  unfold dT
  rw [h, if_pos (by decide)]
theorem sim_deliver : Sim_deliver := by
  intro k G P U x1 x2 hk hI
  have hh := has_msg hI (x := x1)
  by_cases h : f_M_isMessage x1 U = 0
  · have e0 : f_H_take x1 G P = (none, G, P) := by unfold f_H_take; rw [hh, if_pos h]
    have e1 : f_I_deliver x1 G P = (0, G, P) := by unfold f_I_deliver; rw [e0]; rfl
    have e2 : f_M_deliver x1 U = (0, U) := by unfold f_M_deliver; rw [if_pos h]
    rw [e1, e2]
    exact ⟨rfl, Inv_same hk hI⟩
  obtain ⟨i, hi, hi8, rfl⟩ := msg_n hI h
  obtain ⟨n, hn8, hn, hnn⟩ := cnt_n hI
  have hRM := hI.2.1.2.2.1 i hi
  obtain ⟨m1, m2, m3, m4, m5, m6, m7, m8, m9, m10, m11⟩ := hI.2.2.2.2.2.2.2.2.1 i hi
  rw [hnn] at hi
  have e27 : G 27 1 = nI n := by rw [hI.2.1.1.2.2.2.2.2.2.1]; exact hn
  have e0 := take_eq (P := P) e27 hi8 (by rw [hh]; exact h)
  obtain ⟨V, eV, v1, v2, v3, v4, v5, v6⟩ := dl_M hI hn hn8 hi h
  have k27 : g2 G 27 1 (nI n - 1) 27 1 = nI (n - 1) := by
    rw [g2_at]
    obtain ⟨u, rfl⟩ : ∃ u, n = u + 1 := ⟨n - 1, by omega⟩
    rw [nI_pred]
    rfl
  have hI1 := take_inv hk hI hn hn8 hi (G' := g2 G 27 1 (nI n - 1)) (U' := V) (fun j hj => g2_k _ _ _ hj) k27 (fun r hr => g2_ne _ _ _ hr) v1 v2 v3 v4
  have hPi := hI.2.1.2.2.2.1 i (by omega)
  have hinj := hI.2.1.2.2.2.2.1
  obtain ⟨b, hb, eb⟩ := vp_in_of m3 (by decide)
  obtain ⟨f, hf4, ef⟩ := vp_in_of m2 (by decide)
  have gq : ∀ r : Nat, r ≠ 27 → g2 G 27 1 (nI n - 1) r = G r := fun r hr => g2_ne _ _ _ hr
  have hw : ∀ w : Nat, w < 7 → g2 G 27 1 (nI n - 1) (29 + P i) (2 + w) = V 26 w := fun w hw => by rw [gq _ (by omega), hRM.1 w hw, v5 w hw]
  have hT : sameT U V := ⟨v1 2 (by decide) (by decide), v1 3 (by decide) (by decide), v1 4 (by decide) (by decide), v1 5 (by decide) (by decide), v1 6 (by decide) (by decide)⟩
  have hla : ∀ x : Nat, lastN V x = lastN U x := fun x => lastN_fr (by rw [v1 7 (by decide) (by decide)])
  have hrc : recN V = recN U := recN_fr (v2 7 (by decide))
  have k0 : V 26 0 = U 18 i := v5 0 (by decide)
  have k1 : V 26 1 = nI f := by rw [v5 1 (by decide)]; exact ef
  have k2 : V 26 2 = nI b := by rw [v5 2 (by decide)]; exact eb
  have k3 : V 26 3 = U 21 i := v5 3 (by decide)
  have k4 : V 26 4 = U 22 i := v5 4 (by decide)
  have k5 : V 26 5 = U 23 i := v5 5 (by decide)
  have k6 : V 26 6 = U 24 i := v5 6 (by decide)
  have w0 : g2 G 27 1 (nI n - 1) (29 + P i) 2 = V 26 0 := hw 0 (by decide)
  have w2 : g2 G 27 1 (nI n - 1) (29 + P i) 4 = nI b := (hw 2 (by decide)).trans k2
  have hsh : ∀ j : Nat, j < 8 → 29 + P (shN i j) ≠ 29 + P i := fun j hj z => by
    have z1 : P (shN i j) = P i := by omega
    have z2 : shN i j < 9 := by
      unfold shN
      repeat' split
      all_goals omega
    have z3 := hinj _ _ z2 (by omega) z1
    unfold shN at z3
    repeat' split at z3
    all_goals omega
  by_cases hk0 : U 18 i = 0
  · have e1 : f_I_deliver (nI i) G P = (1, f_I_answer (2 + b) (29 + P i) (g2 G 27 1 (nI n - 1)) (fun j => P (shN i j)), fun j => P (shN i j)) := by
      unfold f_I_deliver
      rw [e0, if_neg (by simp)]
      show (if g2 G 27 1 (nI n - 1) (29 + P i) 2 = 0 then (1, f_I_answer (2 + (g2 G 27 1 (nI n - 1) (29 + P i) 4).toNatClampNeg) (29 + P i) (g2 G 27 1 (nI n - 1)) (fun j => P (shN i j)), fun j => P (shN i j)) else (1, f_B_accept (2 + (g2 G 27 1 (nI n - 1) (29 + P i) 4).toNatClampNeg) (29 + P i) (g2 G 27 1 (nI n - 1)), fun j => P (shN i j))) = _
      rw [w0, k0, if_pos hk0, w2, cl4 hb]
    rw [e1, eV]
    unfold dE
    rw [k0, if_pos hk0, k2, k1, cl4 hb]
    have hld := leads_eq hI1 hb
    have hV0 : V 26 0 = 0 := by rw [k0]; exact hk0
    by_cases hl : f_M_leads (nI b) V = 0
    · have eA : f_I_answer (2 + b) (29 + P i) (g2 G 27 1 (nI n - 1)) (fun j => P (shN i j)) = g2 G 27 1 (nI n - 1) := by unfold f_I_answer; rw [← hld, if_pos hl]
      rw [if_pos hl, dT0 hV0, eA]
      exact ⟨rfl, hI1⟩
    · rw [if_neg hl]
      have r5 := (hI1.2.1.2.1 b hb).1.2.2.1
      have w3 := hw 3 (by decide)
      by_cases h3 : V 10 b = V 26 3
      · obtain ⟨_, _, _, _, h11⟩ := isLd_b hl
        rw [if_pos h3]
        obtain ⟨av, hav, eav⟩ := nI_of (x := U 23 i) (by rw [i_lt, i0]; omega)
        rw [eav, nI_toInt hav] at m6
        have hfol : folN U i = f := by unfold folN; rw [if_pos hk0, ef, cl4 hf4]
        obtain ⟨y1, y2⟩ := m10 hk0
        have h11b : V 11 b = nI b := by
          unfold f_M_leads at hl
          rw [sBM_of hb, if_neg one_ne0, cl4 hb] at hl
          by_cases z : V 11 b = nI b
          · exact z
          · exfalso
            apply hl
            by_cases z9 : V 9 b = 0
            · rw [if_pos z9]
            · rw [if_neg z9, if_neg z]
        have hft : ftK (g2 G 27 1 (nI n - 1)) (fun j => P (shN i j)) V b f av (29 + P i) (V 26 6) := by
          refine ⟨hb, hf4, by omega, ⟨by omega, by omega⟩, hsh, ⟨(hw 1 (by decide)).trans k1, hw 4 (by decide), (hw 5 (by decide)).trans (by rw [k5, eav]), hw 6 (by decide)⟩, fun z => ?_, ?_, fun z1 z2 z3 => ?_⟩
          · rw [k6]
            exact y1 (by rw [eav, z]; decide)
          · rw [k4, v1 12 (by decide) (by decide)]
            rw [hfol] at m5
            exact m5
          · have hlive : live U i := by
              unfold live
              rw [hfol]
              rw [v1 13 (by decide) (by decide)] at z1
              rw [v1 12 (by decide) (by decide), k4] at z2
              rw [h3, k3, v1 10 (by decide) (by decide)] at z3
              exact ⟨z1, z2, z3⟩
            obtain ⟨t1, t2⟩ := y2 hlive
            rw [hfol] at t1 t2
            rw [hla, v1 3 (by decide) (by decide), v1 4 (by decide) (by decide), ← t1, ← t2, k6]
            exact ⟨eav, rfl⟩
        have hs := answer_sim hI1 h11b hft (by rw [← hld]; exact hl) (by rw [r5, h3, w3])
        rw [dT0 (by rw [an_26 (vp_in_nI hb (by decide))]; exact hV0), k5, eav]
        exact ⟨rfl, hs⟩
      · have eA : f_I_answer (2 + b) (29 + P i) (g2 G 27 1 (nI n - 1)) (fun j => P (shN i j)) = g2 G 27 1 (nI n - 1) := by
          unfold f_I_answer
          rw [← hld, if_neg hl, r5, w3, if_neg h3]
        rw [if_neg h3, dT0 hV0, eA]
        exact ⟨rfl, hI1⟩
  · have e1 : f_I_deliver (nI i) G P = (1, f_B_accept (2 + b) (29 + P i) (g2 G 27 1 (nI n - 1)), fun j => P (shN i j)) := by
      unfold f_I_deliver
      rw [e0, if_neg (by simp)]
      show (if g2 G 27 1 (nI n - 1) (29 + P i) 2 = 0 then (1, f_I_answer (2 + (g2 G 27 1 (nI n - 1) (29 + P i) 4).toNatClampNeg) (29 + P i) (g2 G 27 1 (nI n - 1)) (fun j => P (shN i j)), fun j => P (shN i j)) else (1, f_B_accept (2 + (g2 G 27 1 (nI n - 1) (29 + P i) 4).toNatClampNeg) (29 + P i) (g2 G 27 1 (nI n - 1)), fun j => P (shN i j))) = _
      rw [w0, k0, if_neg hk0, w2, cl4 hb]
    have hfol : folN U i = b := by unfold folN; rw [if_neg hk0, eb, cl4 hb]
    have hA := accept_sim hI1 hb (q := 29 + P i) (by omega) hw (by rw [k0]; rcases m1 with z | z | z; exact absurd z hk0; exact Or.inl z; exact Or.inr z) (by rw [k5]; exact m6) (fun z => by
      rw [k0] at z
      obtain ⟨t1, t2, t3, t4⟩ := m11 z
      rw [k6, k5, k4, k3, v6, hrc, hT.e_dep, hT.e_epo, hT.e_nodeAt, hT.e_stampN, hla, v1 13 (by decide) (by decide), v1 12 (by decide) (by decide), v1 10 (by decide) (by decide), v1 5 (by decide) (by decide)]
      refine ⟨⟨m7.1, m8 z⟩, t1, (U 25 i).toNatClampNeg, m9.1, m9.2, t2, t3, fun a1 a2 a3 => ?_, fun j hj => ?_⟩
      · have := t4 (by unfold live; rw [hfol]; exact ⟨a1, a2, a3⟩)
        rw [hfol] at this
        exact this
      · rw [gq _ (by omega), gq _ (by omega)]
        exact hRM.2 z j hj)
    rw [e1, eV]
    unfold dE
    rw [k0, if_neg hk0, k2]
    exact ⟨hA.1.symm, hA.2⟩
end DEL2
