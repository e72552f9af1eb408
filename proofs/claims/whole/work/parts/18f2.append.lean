section APP2
variable {k : Nat} {G U : Nat → Nat → Int32} {P : Nat → Nat} {b : Nat}
theorem add_eq {d : Nat} {s v : Int32} (hE : G (2 + b + 4) 2 = nI d) (h40 : d < 40) : f_L_add (2 + b + 4) s v G = g2 (g2 (g2 G (2 + b + 8) d s) (2 + b + 12) d v) (2 + b + 4) 2 (nI (d + 1)) := by
  have hf : f_L_isFull (2 + b + 4) G = 0 := by
    unfold f_L_isFull
    rw [hE, if_pos (by rw [show (40 : Int32) = nI 40 by decide]; exact nI_lt h40 (by decide))]
  unfold f_L_add
  rw [if_pos hf, hE, nI_clamp (by omega)]
  show g2 (g2 (g2 G (2 + b + 8) d s) (2 + b + 12) (g2 G (2 + b + 8) d s (2 + b + 4) 2).toNatClampNeg v) (2 + b + 4) 2 ((g2 (g2 G (2 + b + 8) d s) (2 + b + 12) (g2 G (2 + b + 8) d s (2 + b + 4) 2).toNatClampNeg v) (2 + b + 4) 2 + 1) = _
  rw [show g2 G (2 + b + 8) d s (2 + b + 4) 2 = nI d by rw [g2_ne _ _ _ (by omega), hE], nI_clamp (by omega), show (g2 (g2 G (2 + b + 8) d s) (2 + b + 12) d v) (2 + b + 4) 2 = nI d by rw [g2_ne _ _ _ (by omega), g2_ne _ _ _ (by omega), hE], nI_1]
theorem append_sim (hk : k + 1 ≤ 512) (hI : Inv k G P U) (hb : b < 4) (hl : U 11 b = nI b) {s v mk : Int32} (hmk : zb mk) (hs : s = if mk = 0 then U 10 b else -(U 10 b)) : (f_I_append (2 + b) s v G).1 = (f_M_append (nI b) v mk U).1 ∧ Inv (k + 1) (f_I_append (2 + b) s v G).2 P (f_M_append (nI b) v mk U).2 := by
  obtain ⟨⟨r0, r4, r5, r6, r7, r8, r9⟩, r2, r3⟩ := hI.2.1.2.1 b hb
  obtain ⟨c1, c2, c3, c4⟩ := r3 hl
  have hO := hI.2.2.2.2.2.2.1 b hb
  obtain ⟨o1, o2, o3⟩ := hO.2.2.2.2.2.2.2.2.2.2.2.1 hl
  have hT := hI.2.2.2.1
  have hrec := inv_rec hI
  have h40 := inv_dep hI hb
  have hd : U 3 (lastN U b) = nI (dep U (lastN U b)) := hT.dep_n hO.1.2
  have hU7 : U 7 b = nI (lastN U b) := hO.1.1
  have hy := hO.1.2
  have h07 : U 0 7 = nI (recN U) := Int32.toInt_inj.mp (by rw [nI_toInt (by omega)]; exact hrec.2)
  generalize hdd : dep U (lastN U b) = d at h40 hd
  have hE : G (2 + b + 4) 2 = nI d := by rw [r2.1, hdd]
  have q3 : U 3 (U 7 b).toNatClampNeg = nI d := by rw [hU7, nI_clamp (by omega)]; exact hd
  by_cases h4 : d < 40
  · have hf : f_L_isFull (2 + b + 4) G = 0 := by
      unfold f_L_isFull
      rw [hE, if_pos (by rw [show (40 : Int32) = nI 40 by decide]; exact nI_lt h4 (by decide))]
    have hf2 : nI d < 40 := by rw [show (40 : Int32) = nI 40 by decide]; exact nI_lt h4 (by decide)
    have hz : f_M_syncSize (nI b) U = f_Int_bitCount (G (2 + b) 11) := size_eq hb c2
    by_cases hsz : U 0 2 ≤ f_Int_bitCount (G (2 + b) 11)
    · have e1 : f_I_append (2 + b) s v G = ((f_B_raiseHw (2 + b) (f_L_add (2 + b + 4) s v G)) (2 + b + 4) 2 - 1, f_B_raiseHw (2 + b) (f_L_add (2 + b + 4) s v G)) := by
        unfold f_I_append
        rw [if_pos hf, hI.2.1.1.2.2.1, if_pos hsz]
      have e2 : f_M_append (nI b) v mk U = ((f_M_rise (nI b) (g2 (g2 (g2 (g2 (g2 (g2 (g2 U 0 7 (nI (recN U + 1))) 2 (recN U + 1) (nI (lastN U b))) 3 (recN U + 1) (nI (d + 1))) 4 (recN U + 1) (U 10 b)) 5 (recN U + 1) v) 6 (recN U + 1) mk) 7 b (nI (recN U + 1)))) 3 ((f_M_rise (nI b) (g2 (g2 (g2 (g2 (g2 (g2 (g2 U 0 7 (nI (recN U + 1))) 2 (recN U + 1) (nI (lastN U b))) 3 (recN U + 1) (nI (d + 1))) 4 (recN U + 1) (U 10 b)) 5 (recN U + 1) v) 6 (recN U + 1) mk) 7 b (nI (recN U + 1)))) 0 7).toNatClampNeg - 1, f_M_rise (nI b) (g2 (g2 (g2 (g2 (g2 (g2 (g2 U 0 7 (nI (recN U + 1))) 2 (recN U + 1) (nI (lastN U b))) 3 (recN U + 1) (nI (d + 1))) 4 (recN U + 1) (U 10 b)) 5 (recN U + 1) v) 6 (recN U + 1) mk) 7 b (nI (recN U + 1)))) := by
        unfold f_M_append
        rw [cl4 hb, q3, if_pos hf2, hz, if_pos hsz, h07, nI_1, nI_1, nI_clamp (show recN U + 1 < 2 ^ 31 by omega), hU7]
        rfl
      rw [e1, e2, add_eq hE h4]
      generalize hr : recN U = r at *
      have gG : ∀ q : Nat, q ≠ 2 + b + 4 → q ≠ 2 + b + 8 → q ≠ 2 + b + 12 → g2 (g2 (g2 G (2 + b + 8) d s) (2 + b + 12) d v) (2 + b + 4) 2 (nI (d + 1)) q = G q := fun q a1 a2 a3 => by rw [g2_ne _ _ _ a1, g2_ne _ _ _ a3, g2_ne _ _ _ a2]
      have gE : g2 (g2 (g2 G (2 + b + 8) d s) (2 + b + 12) d v) (2 + b + 4) 2 (nI (d + 1)) (2 + b + 4) 2 = nI (d + 1) := g2_at _ _ _ _
      have g8 : ∀ i : Nat, g2 (g2 (g2 G (2 + b + 8) d s) (2 + b + 12) d v) (2 + b + 4) 2 (nI (d + 1)) (2 + b + 8) i = if i = d then s else G (2 + b + 8) i := fun i => by
        rw [g2_ne _ _ _ (by omega), g2_ne _ _ _ (by omega)]
        by_cases q : i = d
        · subst q
          rw [g2_at, if_pos rfl]
        · rw [g2_k _ _ _ q, if_neg q]
      have g12 : ∀ i : Nat, g2 (g2 (g2 G (2 + b + 8) d s) (2 + b + 12) d v) (2 + b + 4) 2 (nI (d + 1)) (2 + b + 12) i = if i = d then v else G (2 + b + 12) i := fun i => by
        rw [g2_ne _ _ _ (by omega)]
        by_cases q : i = d
        · subst q
          rw [g2_at, if_pos rfl]
        · rw [g2_k _ _ _ q, if_neg q, g2_ne _ _ _ (by omega)]
      generalize g2 (g2 (g2 G (2 + b + 8) d s) (2 + b + 12) d v) (2 + b + 4) 2 (nI (d + 1)) = GA at gG gE g8 g12 ⊢
      have v0 : ∀ j : Nat, j ≠ 7 → g2 (g2 (g2 (g2 (g2 (g2 (g2 U 0 7 (nI (r + 1))) 2 (r + 1) (nI (lastN U b))) 3 (r + 1) (nI (d + 1))) 4 (r + 1) (U 10 b)) 5 (r + 1) v) 6 (r + 1) mk) 7 b (nI (r + 1)) 0 j = U 0 j := fun j hj => by rw [g2_ne _ _ _ (by decide), g2_ne _ _ _ (by decide), g2_ne _ _ _ (by decide), g2_ne _ _ _ (by decide), g2_ne _ _ _ (by decide), g2_ne _ _ _ (by decide), g2_k _ _ _ hj]
      have v07 : g2 (g2 (g2 (g2 (g2 (g2 (g2 U 0 7 (nI (r + 1))) 2 (r + 1) (nI (lastN U b))) 3 (r + 1) (nI (d + 1))) 4 (r + 1) (U 10 b)) 5 (r + 1) v) 6 (r + 1) mk) 7 b (nI (r + 1)) 0 7 = nI (r + 1) := by rw [g2_ne _ _ _ (by decide), g2_ne _ _ _ (by decide), g2_ne _ _ _ (by decide), g2_ne _ _ _ (by decide), g2_ne _ _ _ (by decide), g2_ne _ _ _ (by decide), g2_at]
      have v2 : g2 (g2 (g2 (g2 (g2 (g2 (g2 U 0 7 (nI (r + 1))) 2 (r + 1) (nI (lastN U b))) 3 (r + 1) (nI (d + 1))) 4 (r + 1) (U 10 b)) 5 (r + 1) v) 6 (r + 1) mk) 7 b (nI (r + 1)) 2 (r + 1) = nI (lastN U b) := by rw [g2_ne _ _ _ (by decide), g2_ne _ _ _ (by decide), g2_ne _ _ _ (by decide), g2_ne _ _ _ (by decide), g2_ne _ _ _ (by decide), g2_at]
      have v3 : g2 (g2 (g2 (g2 (g2 (g2 (g2 U 0 7 (nI (r + 1))) 2 (r + 1) (nI (lastN U b))) 3 (r + 1) (nI (d + 1))) 4 (r + 1) (U 10 b)) 5 (r + 1) v) 6 (r + 1) mk) 7 b (nI (r + 1)) 3 (r + 1) = nI (d + 1) := by rw [g2_ne _ _ _ (by decide), g2_ne _ _ _ (by decide), g2_ne _ _ _ (by decide), g2_ne _ _ _ (by decide), g2_at]
      have v4 : g2 (g2 (g2 (g2 (g2 (g2 (g2 U 0 7 (nI (r + 1))) 2 (r + 1) (nI (lastN U b))) 3 (r + 1) (nI (d + 1))) 4 (r + 1) (U 10 b)) 5 (r + 1) v) 6 (r + 1) mk) 7 b (nI (r + 1)) 4 (r + 1) = U 10 b := by rw [g2_ne _ _ _ (by decide), g2_ne _ _ _ (by decide), g2_ne _ _ _ (by decide), g2_at]
      have v5 : g2 (g2 (g2 (g2 (g2 (g2 (g2 U 0 7 (nI (r + 1))) 2 (r + 1) (nI (lastN U b))) 3 (r + 1) (nI (d + 1))) 4 (r + 1) (U 10 b)) 5 (r + 1) v) 6 (r + 1) mk) 7 b (nI (r + 1)) 5 (r + 1) = v := by rw [g2_ne _ _ _ (by decide), g2_ne _ _ _ (by decide), g2_at]
      have v6 : g2 (g2 (g2 (g2 (g2 (g2 (g2 U 0 7 (nI (r + 1))) 2 (r + 1) (nI (lastN U b))) 3 (r + 1) (nI (d + 1))) 4 (r + 1) (U 10 b)) 5 (r + 1) v) 6 (r + 1) mk) 7 b (nI (r + 1)) 6 (r + 1) = mk := by rw [g2_ne _ _ _ (by decide), g2_at]
      have v7 : g2 (g2 (g2 (g2 (g2 (g2 (g2 U 0 7 (nI (r + 1))) 2 (r + 1) (nI (lastN U b))) 3 (r + 1) (nI (d + 1))) 4 (r + 1) (U 10 b)) 5 (r + 1) v) 6 (r + 1) mk) 7 b (nI (r + 1)) 7 b = nI (r + 1) := g2_at _ _ _ _
      have vT : ∀ j x : Nat, 2 ≤ j → j ≤ 6 → x ≠ r + 1 → g2 (g2 (g2 (g2 (g2 (g2 (g2 U 0 7 (nI (r + 1))) 2 (r + 1) (nI (lastN U b))) 3 (r + 1) (nI (d + 1))) 4 (r + 1) (U 10 b)) 5 (r + 1) v) 6 (r + 1) mk) 7 b (nI (r + 1)) j x = U j x := fun j x h1 h2 h3 => by rw [g2_ne _ _ _ (by omega), g2_col h3, g2_col h3, g2_col h3, g2_col h3, g2_col h3, g2_ne _ _ _ (by omega)]
      have vC : ∀ c : Nat, c ≠ b → g2 (g2 (g2 (g2 (g2 (g2 (g2 U 0 7 (nI (r + 1))) 2 (r + 1) (nI (lastN U b))) 3 (r + 1) (nI (d + 1))) 4 (r + 1) (U 10 b)) 5 (r + 1) v) 6 (r + 1) mk) 7 b (nI (r + 1)) 7 c = U 7 c := fun c h => by rw [g2_k _ _ _ h, g2_ne _ _ _ (by decide), g2_ne _ _ _ (by decide), g2_ne _ _ _ (by decide), g2_ne _ _ _ (by decide), g2_ne _ _ _ (by decide), g2_ne _ _ _ (by decide)]
      have vU : ∀ j : Nat, j = 1 ∨ 8 ≤ j → g2 (g2 (g2 (g2 (g2 (g2 (g2 U 0 7 (nI (r + 1))) 2 (r + 1) (nI (lastN U b))) 3 (r + 1) (nI (d + 1))) 4 (r + 1) (U 10 b)) 5 (r + 1) v) 6 (r + 1) mk) 7 b (nI (r + 1)) j = U j := fun j h => by rw [g2_ne _ _ _ (by omega), g2_ne _ _ _ (by omega), g2_ne _ _ _ (by omega), g2_ne _ _ _ (by omega), g2_ne _ _ _ (by omega), g2_ne _ _ _ (by omega), g2_ne _ _ _ (by omega)]
      generalize g2 (g2 (g2 (g2 (g2 (g2 (g2 U 0 7 (nI (r + 1))) 2 (r + 1) (nI (lastN U b))) 3 (r + 1) (nI (d + 1))) 4 (r + 1) (U 10 b)) 5 (r + 1) v) 6 (r + 1) mk) 7 b (nI (r + 1)) = UA at v0 v07 v2 v3 v4 v5 v6 v7 vT vC vU ⊢
      obtain ⟨w, hw, w1, w2⟩ := raise_sim (G := GA) (V := UA) (n := 2 + b) (b := b) (d := d + 1) (by rw [gG _ (by omega) (by omega) (by omega)]; exact r0) hb (by rw [gG _ (by omega) (by omega) (by omega), vU 8 (by omega)]; exact r7) (by rw [gG _ (by omega) (by omega) (by omega), vU 14 (by omega)]; exact c2) (fun m hm => by rw [gG _ (by omega) (by omega) (by omega), vU 15 (by omega)]; exact c3 m hm) (fun m hm => by rw [vU 15 (by omega)]; exact (o3 m hm).1) (by rw [vU 8 (by omega)]; exact hO.2.1) (by omega) gE (by rw [v7, nI_clamp (by omega), v3])
      rw [w1, w2]
      refine ⟨?_, ?_⟩
      · show g2 GA (2 + b) 7 w (2 + b + 4) 2 - 1 = g2 UA 8 b w 3 (g2 UA 8 b w 0 7).toNatClampNeg - 1
        rw [g2_ne _ _ _ (by omega), gE, g2_ne _ _ _ (by decide), g2_ne _ _ _ (by decide), v07, nI_clamp (by omega), v3]
      · show Inv (k + 1) (g2 GA (2 + b) 7 w) P (g2 UA 8 b w)
        refine add_inv (d := d) (r := r) (v := v) hk hI hb hl hdd.symm hr.symm h4 hw hmk (fun q a1 a2 a3 a4 => ?_) (fun j hj => ?_) (g2_at _ _ _ _) ?_ (fun i => ?_) (fun i => ?_) (fun j hj => ?_) ?_ (fun j x a1 a2 a3 => ?_) ?_ ?_ ?_ ?_ ?_ ?_ (g2_at _ _ _ _) (fun j c hj hc => ?_) (fun j hj => ?_)
        · rw [g2_ne _ _ _ a1, gG q a2 a3 a4]
        · rw [g2_k _ _ _ hj, gG _ (by omega) (by omega) (by omega)]
        · rw [g2_ne _ _ _ (by omega), gE]
        · rw [g2_ne _ _ _ (by omega), g8 i, hs]
        · rw [g2_ne _ _ _ (by omega), g12 i]
        · rw [g2_ne _ _ _ (by decide), v0 j hj]
        · rw [g2_ne _ _ _ (by decide), v07]
        · rw [g2_ne _ _ _ (by omega), vT j x a1 a2 a3]
        · rw [g2_ne _ _ _ (by decide), v2]
        · rw [g2_ne _ _ _ (by decide), v3]
        · rw [g2_ne _ _ _ (by decide), v4]
        · rw [g2_ne _ _ _ (by decide), v5]
        · rw [g2_ne _ _ _ (by decide), v6]
        · rw [g2_ne _ _ _ (by decide), v7]
        · rw [g2_col hc]
          rcases hj with q | q
          · rw [q, vC c hc]
          · rw [q, vU 8 (by omega)]
        · rw [g2_ne _ _ _ (by omega), vU j (by omega)]
    · have e1 : f_I_append (2 + b) s v G = (-3, G) := by
        unfold f_I_append
        rw [if_pos hf, hI.2.1.1.2.2.1, if_neg hsz]
      have e2 : f_M_append (nI b) v mk U = (-3, U) := by
        unfold f_M_append
        rw [cl4 hb, q3, if_pos hf2, hz, if_neg hsz]
      rw [e1, e2]
      exact ⟨rfl, Inv_same hk hI⟩
  · have hf2 : ¬ nI d < 40 := by rw [show (40 : Int32) = nI 40 by decide]; exact nI_nlt (by omega) (by omega)
    have hf : ¬ f_L_isFull (2 + b + 4) G = 0 := by
      unfold f_L_isFull
      rw [hE, if_neg hf2]
      exact one_ne0
    have e1 : f_I_append (2 + b) s v G = (-2, G) := by
      unfold f_I_append
      rw [if_neg hf]
    have e2 : f_M_append (nI b) v mk U = (-2, U) := by
      unfold f_M_append
      rw [cl4 hb, q3, if_neg hf2]
    rw [e1, e2]
    exact ⟨rfl, Inv_same hk hI⟩
theorem sim_produce : Sim_produce := by
  intro k G P U x1 x2 hk hI
  by_cases h : f_M_leads x1 U = 0
  · have e1 : f_I_produce x1 x2 G = (-1, G) := by unfold f_I_produce; rw [isLd_eq hI, if_pos h]
    have e2 : f_M_produce x1 x2 U = (-1, U) := by unfold f_M_produce; rw [if_pos h]
    rw [e1, e2]
    exact ⟨rfl, Inv_same hk hI⟩
  · obtain ⟨b, hb, rfl, h9, h11⟩ := isLd_b h
    have r5 := (hI.2.1.2.1 b hb).1.2.2.1
    have e1 : f_I_produce (nI b) x2 G = f_I_append (2 + b) (U 10 b) x2 G := by unfold f_I_produce; rw [isLd_eq hI, if_neg h, cl4 hb, r5]
    have e2 : f_M_produce (nI b) x2 U = f_M_append (nI b) x2 0 U := by unfold f_M_produce; rw [if_neg h]
    rw [e1, e2]
    exact append_sim hk hI hb h11 (Or.inl rfl) (by rw [if_pos rfl])
theorem sim_commit : Sim_commit := by
  intro k G P U x1 x2 hk hI
  by_cases h : f_M_leads x1 U = 0
  · have e1 : f_I_commit x1 x2 G = (-1, G) := by unfold f_I_commit; rw [isLd_eq hI, if_pos h]
    have e2 : f_M_commit x1 x2 U = (-1, U) := by unfold f_M_commit; rw [if_pos h]
    rw [e1, e2]
    exact ⟨rfl, Inv_same hk hI⟩
  · obtain ⟨b, hb, rfl, h9, h11⟩ := isLd_b h
    have r5 := (hI.2.1.2.1 b hb).1.2.2.1
    have r7 := (hI.2.1.2.1 b hb).1.2.2.2.2.1
    by_cases q1 : x2 < 0
    · have e1 : f_I_commit (nI b) x2 G = (-1, G) := by unfold f_I_commit; rw [isLd_eq hI, if_neg h, if_pos q1]
      have e2 : f_M_commit (nI b) x2 U = (-1, U) := by unfold f_M_commit; rw [if_neg h, if_pos q1]
      rw [e1, e2]
      exact ⟨rfl, Inv_same hk hI⟩
    · by_cases q2 : x2 ≤ U 8 b
      · have e1 : f_I_commit (nI b) x2 G = f_I_append (2 + b) (-(U 10 b)) x2 G := by unfold f_I_commit; rw [isLd_eq hI, if_neg h, if_neg q1, cl4 hb, r5, r7, if_pos q2]
        have e2 : f_M_commit (nI b) x2 U = f_M_append (nI b) x2 1 U := by unfold f_M_commit; rw [if_neg h, if_neg q1, cl4 hb, if_pos q2]
        rw [e1, e2]
        exact append_sim hk hI hb h11 (Or.inr rfl) (by rw [if_neg one_ne0])
      · have e1 : f_I_commit (nI b) x2 G = (-1, G) := by unfold f_I_commit; rw [isLd_eq hI, if_neg h, if_neg q1, cl4 hb, r7, if_neg q2]
        have e2 : f_M_commit (nI b) x2 U = (-1, U) := by unfold f_M_commit; rw [if_neg h, if_neg q1, cl4 hb, if_neg q2]
        rw [e1, e2]
        exact ⟨rfl, Inv_same hk hI⟩
end APP2
