section BAT2
variable {k : Nat} {G U : Nat → Nat → Int32} {P : Nat → Nat} {b f a q : Nat} {e : Int32}
theorem upTo_congr {U' : Nat → Nat → Int32} {x n : Int32} (h7 : U' 7 = U 7) (h3 : U' 3 = U 3) (h2 : U' 2 = U 2) : f_M_upTo x n U' = f_M_upTo x n U := by
  have h : ∀ (f : Nat) (v : Int32), f_M_upTo_7 x n U' f v = f_M_upTo_7 x n U f v := by
    intro f
    induction f with
    | zero => intro v; rfl
    | succ f ih =>
      intro v
      rw [f_M_upTo_7, f_M_upTo_7, h3, h2, ih]
  unfold f_M_upTo
  rw [h7, h]
theorem stamp_in (hI : Inv k G P U) (hb : b < 4) {i : Nat} (hi : i < dep U (lastN U b)) : f_L_stampOf (2 + b + 4) (nI i) G = stampN U (nodeAt U (lastN U b) (i + 1)) ∧ f_L_valueOf (2 + b + 4) (nI i) G = U 5 (nodeAt U (lastN U b) (i + 1)) := by
  have h40 := inv_dep hI hb
  unfold f_L_stampOf f_L_valueOf
  rcases rec_at hI hb (x := nI i) with ⟨e1, _⟩ | ⟨j, hj, ej, e1, _, n1, n2, e3, e4⟩
  · exfalso
    unfold f_L_has at e1
    rw [if_neg (nI_pos (by omega)), (hI.2.1.2.1 b hb).2.1.1, if_neg (nI_ge (by omega) (by omega))] at e1
    exact one_ne0 e1
  · have : j = i := (nI_eq (by omega) (by omega)).mp ej.symm
    subst this
    rw [e1, if_neg one_ne0, if_neg one_ne0, nI_clamp (by omega)]
    exact ⟨e3, e4⟩
theorem copy_loop (hI : Inv k G P U) (hb : b < 4) {p sz : Nat} {G2 : Nat → Nat → Int32} (hp : 29 ≤ p) (hp2 : p < 38) (hs3 : sz ≤ 3) (h7 : G2 p 7 = nI sz) (hsd : a + sz ≤ dep U (lastN U b)) (hG : ∀ r : Nat, r < 27 → G2 r = G r) : ∀ (f v : Nat) (X : Nat → Nat → Int32), v ≤ sz → 4 ≤ v + f →
    (∀ r : Nat, r ≠ p + 9 → r ≠ p + 18 → X r = G2 r) → (∀ j : Nat, j < v → X (p + 9) j = stampN U (nodeAt U (lastN U b) (a + j + 1)) ∧ X (p + 18) j = U 5 (nodeAt U (lastN U b) (a + j + 1))) →
    ∃ Y : Nat → Nat → Int32, f_G_copyRecords_2 p (2 + b + 4) (nI a) G2 f (nI v) X = Y ∧ (∀ r : Nat, r ≠ p + 9 → r ≠ p + 18 → Y r = G2 r) ∧ ∀ j : Nat, j < sz → Y (p + 9) j = stampN U (nodeAt U (lastN U b) (a + j + 1)) ∧ Y (p + 18) j = U 5 (nodeAt U (lastN U b) (a + j + 1)) := by
  have h40 := inv_dep hI hb
  have cg : ∀ (X : Nat → Nat → Int32) (x : Int32), X (2 + b + 4) = G (2 + b + 4) → X (2 + b + 8) = G (2 + b + 8) → X (2 + b + 12) = G (2 + b + 12) → f_L_stampOf (2 + b + 4) x X = f_L_stampOf (2 + b + 4) x G ∧ f_L_valueOf (2 + b + 4) x X = f_L_valueOf (2 + b + 4) x G := fun X x e1 e2 e3 => by
    unfold f_L_stampOf f_L_valueOf f_L_has
    rw [e1, show X (2 + b + 4 + 4) = G (2 + b + 4 + 4) from e2, show X (2 + b + 4 + 8) = G (2 + b + 4 + 8) from e3]
    exact ⟨rfl, rfl⟩
  intro f
  induction f with
  | zero => intro v X h1 h2; omega
  | succ f ih =>
    intro v X h1 h2 x1 x2
    rw [f_G_copyRecords_2, x1 p (by omega) (by omega), h7]
    by_cases hv : v = sz
    · rw [if_pos (nI_le (by omega) (by omega))]
      subst hv
      exact ⟨X, rfl, x1, x2⟩
    · have h3 : ¬ (3 : Int32) ≤ nI v := by
        rw [show (3 : Int32) = nI 3 by decide]
        exact nI_ge (by omega) (by omega)
      have xl : ∀ r : Nat, r < 27 → X r = G r := fun r hr => by rw [x1 r (by omega) (by omega), hG r hr]
      rw [if_neg (nI_ge (by omega) (by omega)), if_neg h3, nI_1, nI_clamp (by omega), nI_add]
      obtain ⟨g1, _⟩ := cg X (nI (a + v)) (xl _ (by omega)) (xl _ (by omega)) (xl _ (by omega))
      obtain ⟨i1, i2⟩ := stamp_in hI hb (show a + v < dep U (lastN U b) by omega)
      rw [g1, i1]
      obtain ⟨_, g2'⟩ := cg (g2 X (p + 9) v (stampN U (nodeAt U (lastN U b) (a + v + 1)))) (nI (a + v)) (by rw [g2_ne _ _ _ (by omega)]; exact xl _ (by omega)) (by rw [g2_ne _ _ _ (by omega)]; exact xl _ (by omega)) (by rw [g2_ne _ _ _ (by omega)]; exact xl _ (by omega))
      rw [g2', i2]
      refine ih (v + 1) _ (by omega) (by omega) (fun r b1 b2 => ?_) (fun j hj => ?_)
      · rw [g2_ne _ _ _ b2, g2_ne _ _ _ b1, x1 r b1 b2]
      · rw [show g2 (g2 X (p + 9) v (stampN U (nodeAt U (lastN U b) (a + v + 1)))) (p + 18) v (U 5 (nodeAt U (lastN U b) (a + v + 1))) (p + 9) j = g2 X (p + 9) v (stampN U (nodeAt U (lastN U b) (a + v + 1))) (p + 9) j by rw [g2_ne _ _ _ (by omega)]]
        by_cases z : j = v
        · subst z
          rw [g2_at, g2_at]
          exact ⟨rfl, rfl⟩
        · rw [g2_k _ _ _ z, g2_k _ _ _ z, g2_ne _ _ _ (by omega)]
          exact x2 j (by omega)
theorem batch_sim (hI : Inv k G P U) (hl : U 11 b = nI b) (hf : ftK G P U b f a q e) (hg : goesOn U b a e) : ∃ (d sz : Nat) (S : Int32 × (Nat → Nat → Int32)), d = dep U (lastN U b) ∧ (if U 3 (U 7 b).toNatClampNeg ≤ nI a + U 0 1 then U 3 (U 7 b).toNatClampNeg else nI a + U 0 1) = nI (a + sz) ∧ nI (a + sz) - nI a = nI sz ∧ S = f_M_send 2 (nI b) (nI f) (U 10 b) (U 26 4) (nI sz) (U 8 b) U ∧ Inv k (f_I_sendBatch (2 + b) q G P) P (if S.1 = 0 then S.2 else g2 S.2 25 (S.2 0 24 - 1).toNatClampNeg (f_M_upTo (nI b) (nI (a + sz)) S.2)) := by
  obtain ⟨hb, hf4, ha, hq, hqp, ⟨g3, g6, g7, g8⟩, h0, hnum, hlv⟩ := hf
  obtain ⟨had, hge⟩ := hg
  have h40 := inv_dep hI hb
  have hT := hI.2.2.2.1
  have hrec := inv_rec hI
  have hO := hI.2.2.2.2.2.2.1 b hb
  obtain ⟨l1, l2⟩ := hO.1
  obtain ⟨⟨r0, r4, r5, r6, r7, r8, r9⟩, r2, r3⟩ := hI.2.1.2.1 b hb
  have hBt := hI.2.2.1.2.1
  obtain ⟨B, hB, eB⟩ := nI_of (x := U 0 1) (by rw [i_lt, i0]; omega)
  rw [eB, nI_toInt hB] at hBt
  generalize hd : dep U (lastN U b) = d at *
  have hd3 : U 3 (U 7 b).toNatClampNeg = nI d := by rw [l1, nI_clamp (by omega), hT.dep_n l2, hd]
  refine ⟨d, min B (d - a), f_M_send 2 (nI b) (nI f) (U 10 b) (U 26 4) (nI (min B (d - a))) (U 8 b) U, rfl, ?_, ?_, rfl, ?_⟩
  · rw [hd3, eB, nI_add]
    by_cases z : d ≤ a + B
    · rw [if_pos (nI_le z (by omega)), show a + min B (d - a) = d by omega]
    · rw [if_neg (nI_ge (by omega) (by omega)), show a + min B (d - a) = a + B by omega]
  · rw [pk_sub (by omega), show a + min B (d - a) - a = min B (d - a) by omega]
  · have hsz : (if (G (2 + b + 4) 2 - G q 7) < G 0 1 then (G (2 + b + 4) 2 - G q 7) else G 0 1) = nI (min B (d - a)) := by
      rw [r2.1, hd, g7, pk_sub had, hI.2.1.1.2.1, eB]
      by_cases z : d - a < B
      · rw [if_pos (nI_lt z (by omega)), show min B (d - a) = d - a by omega]
      · rw [if_neg (nI_nlt (by omega) (by omega)), show min B (d - a) = B by omega]
    unfold f_I_sendBatch
    rw [hsz, g3, g6, r7]
    have hs3 : min B (d - a) ≤ 3 := by omega
    have hsd : a + min B (d - a) ≤ d := by omega
    generalize min B (d - a) = sz at hs3 hsd
    obtain ⟨m, hm8, hm, hmm⟩ := cnt_n hI
    have h27 : G 27 1 = nI m := by rw [hI.2.1.1.2.2.2.2.2.2.1]; exact hm
    by_cases hfull : m = 8
    · subst hfull
      rw [sendC8 h27, sendM8 hm, if_pos rfl, if_pos rfl]
      exact hI
    · obtain ⟨G2, eC, c1, c2, c3, c4, c5, c6, c7, c8, c9⟩ := sendC (P := P) (x1 := 2) (x3 := nI f) (x4 := U 26 4) (x5 := nI sz) (x6 := U 8 b) h27 (by omega) (show 2 + b < 27 by omega)
      obtain ⟨U2, eM, m1, m2, m3, m4, w0, w1, w2, w3, w4, w5, w6, w7⟩ := sendM (x1 := 2) (x2 := nI b) (x3 := nI f) (x4 := U 10 b) (x5 := U 26 4) (x6 := nI sz) (x7 := U 8 b) hm (by omega)
      have hPm := hI.2.1.2.2.2.1 m (by omega)
      rw [eC, eM, if_neg (show ¬ (1, U2).1 = (0 : Int32) from one_ne0), if_neg (by simp)]
      show Inv k (f_G_copyRecords (29 + P m) (2 + b + 4) (G2 q 7) G2) P (g2 U2 25 (U2 0 24 - 1).toNatClampNeg (f_M_upTo (nI b) (nI (a + sz)) U2))
      rw [c1 q (by omega) (fun z => hqp m (by omega) z.symm), g7, m3, nI_pred, nI_clamp (by omega), upTo_congr (m1 7 (by decide) (by decide)) (m1 3 (by decide) (by decide)) (m1 2 (by decide) (by decide)), upTo_n hI hb (by omega)]
      obtain ⟨Y, eY, y1, y2⟩ := copy_loop hI hb (a := a) (p := 29 + P m) (sz := sz) (G2 := G2) (by omega) (by omega) hs3 c8 (by omega) (fun r hr => c1 r (by omega) (by omega)) 4 0 G2 (by omega) (by omega) (fun _ _ _ => rfl) (fun j hj => by omega)
      have eY2 : f_G_copyRecords (29 + P m) (2 + b + 4) (nI a) G2 = Y := by
        unfold f_G_copyRecords
        rw [← nI_0]
        exact eY
      rw [eY2]
      have hle := hT.at_le (d := a + sz) l2
      have hdl : dep U (nodeAt U (lastN U b) (a + sz)) = a + sz := hT.at_dep l2 (by omega)
      have hne : ¬ (-1 : Int32) = nI b := fun z => by
        have := congrArg Int32.toInt z
        rw [im1, nI_toInt (by omega)] at this
        omega
      have hk0 : ¬ U 10 b = 0 := fun z => hne ((hO.2.2.2.2.2.2.2.1 z).symm.trans hl)
      have hk1 := lv_neT hk0 (a := 0) (by decide)
      have hal : ∀ j : Nat, j ≤ a + sz → nodeAt U (nodeAt U (lastN U b) (a + sz)) j = nodeAt U (lastN U b) j := fun j hj => hT.at_at l2 (by omega) hj
      have u : ∀ j : Nat, j ≠ 0 → j < 18 → g2 U2 25 m (nI (nodeAt U (lastN U b) (a + sz))) j = U j := fun j a1 a2 => by rw [g2_ne _ _ _ (by omega), m1 j a1 (by omega)]
      have uw : ∀ j : Nat, j ≠ 25 → g2 U2 25 m (nI (nodeAt U (lastN U b) (a + sz))) j = U2 j := fun j a1 => g2_ne _ _ _ a1
      have hT2 : sameT U (g2 U2 25 m (nI (nodeAt U (lastN U b) (a + sz)))) := ⟨u 2 (by decide) (by decide), u 3 (by decide) (by decide), u 4 (by decide) (by decide), u 5 (by decide) (by decide), u 6 (by decide) (by decide)⟩
      have hfo : folN (g2 U2 25 m (nI (nodeAt U (lastN U b) (a + sz)))) m = f := by unfold folN; rw [uw 18 (by decide), uw 20 (by decide), w0, if_neg (by decide), w2, cl4 hf4]
      have hr2 : recN (g2 U2 25 m (nI (nodeAt U (lastN U b) (a + sz)))) = recN U := by unfold recN; rw [uw 0 (by decide), m2 7 (by decide)]
      have hcl : (nI (nodeAt U (lastN U b) (a + sz))).toNatClampNeg = nodeAt U (lastN U b) (a + sz) := nI_clamp (by omega)
      have hsc : (nI sz).toNatClampNeg = sz := nI_clamp (by omega)
      have y0 : Y (29 + P m) = G2 (29 + P m) := y1 _ (by omega) (by omega)
      refine send_inv hI hm (by omega) rfl (fun r a1 a2 a3 a4 => by rw [y1 r a3 a4, c1 r a1 a2]) (by rw [y1 27 (by omega) (by omega), c2]) ⟨by rw [y0, c5]; exact vp_in_nI hf4 (by decide), by rw [y0, c4, r0]; exact vp_in_nI hb (by decide)⟩ u (fun j a1 => by rw [uw 0 (by decide), m2 j a1]) (by rw [uw 0 (by decide), m3]) (fun j q' a1 a2 a3 => by rw [g2_col a3, m4 j q' a1 a2 a3]) ?_ ?_ ?_
      · unfold RM
        rw [uw 18 (by decide), uw 23 (by decide), g2_at, w5, hcl, hsc, hT2.e_dep, hT2.e_nodeAt, hT2.e_stampN, hT2.2.2.2.1, hdl, y0]
        refine ⟨fun w hw => ?_, fun _ j hj => ?_⟩
        · rw [uw (18 + w) (by omega)]
          rcases (show w = 0 ∨ w = 1 ∨ w = 2 ∨ w = 3 ∨ w = 4 ∨ w = 5 ∨ w = 6 by omega) with z | z | z | z | z | z | z <;> subst z
          · rw [c3, w0]
          · rw [c4, w1, r0]
          · rw [c5, w2]
          · rw [c6, w3, r5]
          · rw [c7, w4]
          · rw [c8, w5]
          · rw [c9, w6]
        · rw [show a + sz - sz + j + 1 = a + j + 1 by omega, hal _ (by omega)]
          exact y2 j hj
      · unfold okM live
        rw [hfo, hr2, uw 18 (by decide), uw 19 (by decide), uw 20 (by decide), uw 21 (by decide), uw 22 (by decide), uw 23 (by decide), uw 24 (by decide), g2_at, w0, w1, w2, w3, w4, w5, w6, hcl, hsc, hT2.e_dep, hT2.e_epo, hT2.e_nodeAt, uw 0 (by decide), m2 4 (by decide), u 12 (by decide) (by decide), u 13 (by decide) (by decide), u 10 (by decide) (by decide), show lastN (g2 U2 25 m (nI (nodeAt U (lastN U b) (a + sz)))) f = lastN U f from lastN_fr (by rw [u 7 (by decide) (by decide)]), hdl, nI_toInt (show sz < 2 ^ 31 by omega)]
        have h6 := hO.2.2.2.2.2.1
        refine ⟨Or.inr (Or.inr rfl), vp_in_nI hb (by decide), vp_in_nI hf4 (by decide), by omega, hnum, by omega, ⟨hO.2.1.1, by have := hO.2.1.2; omega⟩, fun _ => hO.2.1.2, ⟨rfl, by omega⟩, fun z => absurd z (by decide), fun _ => ⟨by omega, by omega, ?_, fun z => ?_⟩⟩
        · have q1 := hT.epo_at l2 (show a + sz ≤ dep U (lastN U b) by omega) (Nat.le_refl _)
          rw [nodeAt_self] at q1
          have q2 := hO.2.2.2.2.2.2.2.2.2.1 hk0
          omega
        · rw [show a + sz - sz = a by omega, hal _ (by omega)]
          obtain ⟨z1, z2⟩ := hlv z.1 z.2.1 z.2.2
          have lf := (hI.2.2.2.2.2.2.1 f hf4).1.2
          have hx := hT.at_le (d := a) l2
          refine hT.2.2.2 _ _ (by omega) lf ?_ ?_
          · rw [hT.at_dep l2 (by omega)]
            unfold dep
            rw [z1, nI_clamp (by omega)]
          · unfold epo
            rw [z2, hge]
      · rw [uw 20 (by decide), uw 19 (by decide), uw 23 (by decide), g2_at, w1, w2, w5, nI_toInt (show sz < 2 ^ 31 by omega)]
        exact ⟨vp_in_nI hf4 (by decide), vp_in_nI hb (by decide), by omega, vp_in_nI (by omega) (by decide)⟩
end BAT2
