/-! A message is sent; fetch. -/
section SEND
variable {k : Nat} {G G' U U' : Nat → Nat → Int32} {P : Nat → Nat} {n p : Nat}
theorem send_inv (hI : Inv k G P U) (hn : U 0 24 = nI n) (hn8 : n < 8) (hp : p = P n) (eG : ∀ r : Nat, r ≠ 27 → r ≠ 29 + p → r ≠ 29 + p + 9 → r ≠ 29 + p + 18 → G' r = G r) (k27 : G' 27 1 = nI (n + 1)) (hv : vp_in (G' (29 + p) 4) 4 ∧ vp_in (G' (29 + p) 3) 4)
    (eU : ∀ j : Nat, j ≠ 0 → j < 18 → U' j = U j) (eU0 : ∀ j : Nat, j ≠ 24 → U' 0 j = U 0 j) (u24 : U' 0 24 = nI (n + 1)) (eM : ∀ j q : Nat, 18 ≤ j → j ≤ 25 → q ≠ n → U' j q = U j q)
    (hRM : RM G' P U' n) (hOK : okM U' n) (hQn : vp_in (U' 20 n) 4 ∧ vp_in (U' 19 n) 4 ∧ (0 ≤ (U' 23 n).toInt ∧ (U' 23 n).toInt ≤ 100) ∧ vp_in (U' 25 n) 520) : Inv k G' P U' := by
  obtain ⟨hk, ⟨⟨s0, s1, s2, s3, s4, s5, s6, s7⟩, hB, hM, hP, hPi, hQ9⟩, hN, hTr, hE, hZ, hO, hD, hMs, hX, hQ⟩ := hI
  have hcn : (U 0 24).toNatClampNeg = n := by rw [hn, nI_clamp (by omega)]
  have hp9 : p < 9 := by rw [hp]; exact hP n (by omega)
  have hT : sameT U U' := ⟨eU 2 (by decide) (by decide), eU 3 (by decide) (by decide), eU 4 (by decide) (by decide), eU 5 (by decide) (by decide), eU 6 (by decide) (by decide)⟩
  have e7 := recN_fr (eU0 7 (by decide))
  have eL : ∀ r : Nat, r < 27 → G' r = G r := fun r h => eG r (by omega) (by omega) (by omega) (by omega)
  have e28 : ∀ r : Nat, r ≠ 27 → r < 29 → G' r = G r := fun r h1 h => eG r h1 (by omega) (by omega) (by omega)
  refine ⟨hk, ⟨?_, fun b hb => ?_, fun q hq => ?_, hP, hPi, fun j hj => ?_⟩, ?_, ?_, fun x hx => ?_, ?_, fun b hb => ?_, fun b c hb hc e ne => ?_, fun q hq => ?_, fun x hx => ?_, fun q hq => ?_⟩
  · unfold RS
    rw [eL 0 (by decide), eL 26 (by decide), k27, eU0 0 (by decide), eU0 1 (by decide), eU0 2 (by decide), eU0 3 (by decide), eU0 4 (by decide), eU0 5 (by decide), u24, eU 1 (by decide) (by decide)]
    exact ⟨s0, s1, s2, s3, s4, s5, rfl, s7⟩
  · obtain ⟨r1, r2, r3⟩ := hB b hb
    exact ⟨RB_fr (eL _ (by omega)) (fun j a1 a2 => by rw [eU j (by omega) (by omega)]) r1, RL_fr hT (by rw [eU 7 (by decide) (by decide)]) (by rw [eL _ (by omega)]) (eL _ (by omega)) (eL _ (by omega)) r2, RK_fr (fun j _ => by rw [eL _ (by omega)]) (eL _ (by omega)) (eL _ (by omega)) (by rw [eU 11 (by decide) (by decide)]) (by rw [eU 17 (by decide) (by decide)]) (fun m _ => ⟨by rw [eU 14 (by decide) (by decide)], by rw [eU 15 (by decide) (by decide)], by rw [eU 16 (by decide) (by decide)]⟩) r3⟩
  · rw [u24, nI_clamp (by omega)] at hq
    by_cases hqn : q = n
    · subst hqn
      exact hRM
    · have hPq := hP q (by omega)
      have hne : P q ≠ p := fun z => hqn (hPi q n (by omega) (by omega) (by rw [z, hp]))
      exact RM_fr hT rfl (eG _ (by omega) (by omega) (by omega) (by omega)) (eG _ (by omega) (by omega) (by omega) (by omega)) (eG _ (by omega) (by omega) (by omega) (by omega)) (fun j a1 a2 => eM j q a1 a2 hqn) (hM q (by omega))
  · by_cases hjp : j = p
    · rw [hjp]
      exact hv
    · rw [eG _ (by omega) (by omega) (by omega) (by omega)]
      exact hQ9 j hj
  · obtain ⟨n1, n2, n3, n4, n5, n6, n7⟩ := hN
    unfold okN
    rw [eU0 0 (by decide), eU0 1 (by decide), eU0 2 (by decide), eU0 4 (by decide), eU0 5 (by decide), eU0 7 (by decide), u24, nI_toInt (by omega)]
    exact ⟨n1, n2, n3, n4, n5, n6, by omega⟩
  · rw [e7]
    exact hT.e_tree hTr
  · rw [e7] at hx
    rw [hT.e_epo, eU0 4 (by decide)]
    exact hE x hx
  · rw [eU 1 (by decide) (by decide)]
    exact hZ
  · exact okB_fr hT (eU0 4 (by decide)) (eU0 5 (by decide)) (eU0 7 (by decide)) (fun j a1 a2 => by rw [eU j (by omega) (by omega)]) (by rw [eU 17 (by decide) (by decide)]) (fun m _ => by rw [eU 14 (by decide) (by decide)]) (fun m _ => by rw [eU 15 (by decide) (by decide)]) (Nat.le_refl _) (hO b hb)
  · rw [eU 10 (by decide) (by decide)] at e ne
    rw [eU 11 (by decide) (by decide)]
    exact hD b c hb hc e ne
  · rw [u24, nI_clamp (by omega)] at hq
    by_cases hqn : q = n
    · subst hqn
      exact hOK
    · exact okM_mv hT (eU0 4 (by decide)) (eU0 7 (by decide)) (fun j a1 a2 => eM j q a1 a2 hqn) (fun j hj => eU j (by omega) (by omega)) (hMs q (by omega))
  · rw [e7] at hx
    rw [hT.1, hT.2.1]
    exact hX x hx
  · by_cases hqn : q = n
    · subst hqn
      exact hQn
    · rw [eM 20 q (by omega) (by omega) hqn, eM 19 q (by omega) (by omega) hqn, eM 23 q (by omega) (by omega) hqn, eM 25 q (by omega) (by omega) hqn]
      exact hQ q hq
theorem sendC {x1 x3 x4 x5 x6 : Int32} {m : Nat} (h27 : G 27 1 = nI n) (hn8 : n < 8) (hm : m < 27) : ∃ G2 : Nat → Nat → Int32, f_H_send x1 m x3 x4 x5 x6 G P = (some (29 + P n), G2) ∧ (∀ r : Nat, r ≠ 27 → r ≠ 29 + P n → G2 r = G r) ∧ G2 27 1 = nI (n + 1) ∧ G2 (29 + P n) 2 = x1 ∧ G2 (29 + P n) 3 = G m 0 ∧ G2 (29 + P n) 4 = x3 ∧ G2 (29 + P n) 5 = G m 5 ∧ G2 (29 + P n) 6 = x4 ∧ G2 (29 + P n) 7 = x5 ∧ G2 (29 + P n) 8 = x6 := by
  have h8 : nI n < 8 := by rw [show (8 : Int32) = nI 8 by decide]; exact nI_lt hn8 (by decide)
  unfold f_H_send
  simp only [jn]
  rw [h27, if_pos h8, nI_clamp (by omega), nI_1]
  refine ⟨_, rfl, fun r a1 a2 => ?_, ?_, ?_, ?_, ?_, ?_, ?_, ?_, ?_⟩
  · rw [g2_ne _ _ _ a2, g2_ne _ _ _ a2, g2_ne _ _ _ a2, g2_ne _ _ _ a2, g2_ne _ _ _ a2, g2_ne _ _ _ a2, g2_ne _ _ _ a2, g2_ne _ _ _ a1]
  · rw [g2_ne _ _ _ (by omega), g2_ne _ _ _ (by omega), g2_ne _ _ _ (by omega), g2_ne _ _ _ (by omega), g2_ne _ _ _ (by omega), g2_ne _ _ _ (by omega), g2_ne _ _ _ (by omega), g2_at]
  · rw [g2_k _ _ _ (by decide), g2_k _ _ _ (by decide), g2_k _ _ _ (by decide), g2_k _ _ _ (by decide), g2_k _ _ _ (by decide), g2_k _ _ _ (by decide), g2_at]
  · rw [g2_k _ _ _ (by decide), g2_k _ _ _ (by decide), g2_k _ _ _ (by decide), g2_k _ _ _ (by decide), g2_k _ _ _ (by decide), g2_at, g2_ne _ _ _ (by omega), g2_ne _ _ _ (by omega)]
  · rw [g2_k _ _ _ (by decide), g2_k _ _ _ (by decide), g2_k _ _ _ (by decide), g2_k _ _ _ (by decide), g2_at]
  · rw [g2_k _ _ _ (by decide), g2_k _ _ _ (by decide), g2_k _ _ _ (by decide), g2_at, g2_ne _ _ _ (by omega), g2_ne _ _ _ (by omega), g2_ne _ _ _ (by omega), g2_ne _ _ _ (by omega)]
  · rw [g2_k _ _ _ (by decide), g2_k _ _ _ (by decide), g2_at]
  · rw [g2_k _ _ _ (by decide), g2_at]
  · rw [g2_at]
theorem sendC8 {x1 x3 x4 x5 x6 : Int32} {m : Nat} (h27 : G 27 1 = nI 8) : f_H_send x1 m x3 x4 x5 x6 G P = (none, G) := by
  unfold f_H_send
  rw [h27, if_neg (by decide)]
theorem sendM {x1 x2 x3 x4 x5 x6 x7 : Int32} (hn : U 0 24 = nI n) (hn8 : n < 8) : ∃ U2 : Nat → Nat → Int32, f_M_send x1 x2 x3 x4 x5 x6 x7 U = (1, U2) ∧ (∀ j : Nat, j ≠ 0 → (j < 18 ∨ 25 < j) → U2 j = U j) ∧ (∀ j : Nat, j ≠ 24 → U2 0 j = U 0 j) ∧ U2 0 24 = nI (n + 1) ∧ (∀ j q : Nat, 18 ≤ j → j ≤ 25 → q ≠ n → U2 j q = U j q) ∧ U2 18 n = x1 ∧ U2 19 n = x2 ∧ U2 20 n = x3 ∧ U2 21 n = x4 ∧ U2 22 n = x5 ∧ U2 23 n = x6 ∧ U2 24 n = x7 ∧ U2 25 n = 0 := by
  have h8 : nI n < 8 := by rw [show (8 : Int32) = nI 8 by decide]; exact nI_lt hn8 (by decide)
  unfold f_M_send
  rw [hn, if_pos h8, nI_clamp (by omega), nI_1]
  refine ⟨_, rfl, fun j a1 a2 => ?_, fun j a1 => ?_, g2_at _ _ _ _, fun j q a1 a2 a3 => ?_, ?_, ?_, ?_, ?_, ?_, ?_, ?_, ?_⟩
  · rw [g2_ne _ _ _ a1, g2_ne _ _ _ (by omega), g2_ne _ _ _ (by omega), g2_ne _ _ _ (by omega), g2_ne _ _ _ (by omega), g2_ne _ _ _ (by omega), g2_ne _ _ _ (by omega), g2_ne _ _ _ (by omega), g2_ne _ _ _ (by omega)]
  · rw [g2_k _ _ _ a1, g2_ne _ _ _ (by decide), g2_ne _ _ _ (by decide), g2_ne _ _ _ (by decide), g2_ne _ _ _ (by decide), g2_ne _ _ _ (by decide), g2_ne _ _ _ (by decide), g2_ne _ _ _ (by decide), g2_ne _ _ _ (by decide)]
  · rw [g2_ne _ _ _ (by omega), g2_col a3, g2_col a3, g2_col a3, g2_col a3, g2_col a3, g2_col a3, g2_col a3, g2_col a3]
  · rw [g2_ne _ _ _ (by decide), g2_ne _ _ _ (by decide), g2_ne _ _ _ (by decide), g2_ne _ _ _ (by decide), g2_ne _ _ _ (by decide), g2_ne _ _ _ (by decide), g2_ne _ _ _ (by decide), g2_ne _ _ _ (by decide), g2_at]
  · rw [g2_ne _ _ _ (by decide), g2_ne _ _ _ (by decide), g2_ne _ _ _ (by decide), g2_ne _ _ _ (by decide), g2_ne _ _ _ (by decide), g2_ne _ _ _ (by decide), g2_ne _ _ _ (by decide), g2_at]
  · rw [g2_ne _ _ _ (by decide), g2_ne _ _ _ (by decide), g2_ne _ _ _ (by decide), g2_ne _ _ _ (by decide), g2_ne _ _ _ (by decide), g2_ne _ _ _ (by decide), g2_at]
  · rw [g2_ne _ _ _ (by decide), g2_ne _ _ _ (by decide), g2_ne _ _ _ (by decide), g2_ne _ _ _ (by decide), g2_ne _ _ _ (by decide), g2_at]
  · rw [g2_ne _ _ _ (by decide), g2_ne _ _ _ (by decide), g2_ne _ _ _ (by decide), g2_ne _ _ _ (by decide), g2_at]
  · rw [g2_ne _ _ _ (by decide), g2_ne _ _ _ (by decide), g2_ne _ _ _ (by decide), g2_at]
  · rw [g2_ne _ _ _ (by decide), g2_ne _ _ _ (by decide), g2_at]
  · rw [g2_ne _ _ _ (by decide), g2_at]
theorem sendM8 {x1 x2 x3 x4 x5 x6 x7 : Int32} (hn : U 0 24 = nI 8) : f_M_send x1 x2 x3 x4 x5 x6 x7 U = (0, U) := by
  unfold f_M_send
  rw [hn, if_neg (by decide)]
/-- the epoch of a record without its sign -/
theorem abs_stamp (hT : Tree U (recN U)) {x : Nat} (h0 : 0 < x) (hx : x ≤ recN U) : (if 0 ≤ stampN U x then stampN U x else 0 - stampN U x) = U 4 x := by
  by_cases h : U 6 x = 0
  · rw [if_pos ((stamp_mark hT h0 hx).mpr h)]
    unfold stampN
    rw [if_pos h]
  · rw [if_neg (fun z => h ((stamp_mark hT h0 hx).mp z))]
    unfold stampN
    rw [if_neg h, Int32.zero_sub, Int32.neg_neg]
theorem epochOf_in (hI : Inv k G P U) {b i : Nat} (hb : b < 4) (hi : i < dep U (lastN U b)) : f_L_epochOf (2 + b + 4) (nI i) G = U 4 (nodeAt U (lastN U b) (i + 1)) := by
  have h40 := inv_dep hI hb
  unfold f_L_epochOf f_L_stampOf
  rcases rec_at hI hb (x := nI i) with ⟨e1, _⟩ | ⟨j, hj, ej, e1, _, n1, n2, e3, _⟩
  · exfalso
    unfold f_L_has at e1
    rw [if_neg (nI_pos (by omega)), (hI.2.1.2.1 b hb).2.1.1, if_neg (nI_ge (by omega) (by omega))] at e1
    exact one_ne0 e1
  · have : j = i := (nI_eq (by omega) (by omega)).mp ej.symm
    subst this
    rw [e1, if_neg one_ne0, nI_clamp (by omega), show 2 + b + 4 + 4 = 2 + b + 8 from rfl, e3]
    exact abs_stamp hI.2.2.2.1 n1 n2
/-- the epoch of the last record of a beginning of the log: none, no epoch -/
theorem epochOf_d (hI : Inv k G P U) {b d : Nat} (hb : b < 4) (hd : d ≤ dep U (lastN U b)) : f_L_epochOf (2 + b + 4) (nI d - 1) G = U 4 (nodeAt U (lastN U b) d) := by
  have hT := hI.2.2.2.1
  have h2 := (hI.2.2.2.2.2.2.1 b hb).1.2
  cases d with
  | zero =>
    rw [hT.at_0 h2, hT.2.1.2.2.1]
    unfold f_L_epochOf f_L_stampOf f_L_has
    rw [if_pos (show nI 0 - 1 < 0 by decide), if_pos rfl, if_pos (show (0 : Int32) ≤ 0 by decide)]
  | succ d =>
    rw [nI_pred]
    exact epochOf_in hI hb (by omega)
end SEND
