/-! The channel: a message is taken out; lose. -/
section CHAN
variable {k : Nat} {G G' U U' : Nat → Nat → Int32} {P P' : Nat → Nat} {i n : Nat}
/-- where the message lies that comes into place j when the one at i is taken -/
def shN (i j : Nat) : Nat := if j < i then j else if j < 8 then j + 1 else if j = 8 then i else j
theorem take_loop {c : Int32} (hG : G 27 1 = c) (hi : i < 8) : ∀ (f v : Nat) (Q : Nat → Nat), v ≤ 8 → 9 ≤ v + f → f_H_take_19 (nI i) G P f (nI v) G Q = (some (29 + P i), g2 G 27 1 (c - 1), fun j => if v ≤ j ∧ j < 8 then Q (j + 1) else if j = 8 then P i else Q j) := by
  intro f
  induction f with
  | zero => intro v Q h1 h2; omega
  | succ f ih =>
    intro v Q h1 h2
    rw [f_H_take_19]
    by_cases hv : v = 8
    · subst hv
      rw [if_pos (by decide), nI_clamp (by omega), hG]
      congr 2
      funext j
      unfold va_up
      rw [if_neg (show ¬ (8 ≤ j ∧ j < 8) by omega)]
    · have h8 : ¬ (8 : Int32) ≤ nI v := by
        rw [show (8 : Int32) = nI 8 by decide]
        exact nI_ge (by omega) (by omega)
      rw [if_neg h8, nI_1, nI_clamp (by omega), nI_clamp (by omega), ih (v + 1) _ (by omega) (by omega)]
      congr 2
      funext j
      unfold va_up
      by_cases a1 : v + 1 ≤ j ∧ j < 8
      · rw [if_pos a1, if_neg (by omega), if_pos (by omega)]
      · rw [if_neg a1]
        by_cases a2 : j = 8
        · rw [if_pos a2, if_neg (by omega), if_pos a2]
        · rw [if_neg a2]
          by_cases a3 : j = v
          · rw [if_pos a3, if_pos (by omega), a3]
          · rw [if_neg a3, if_neg (by omega), if_neg a2]
theorem take_eq {c : Int32} (hG : G 27 1 = c) (hi : i < 8) (hh : ¬ f_H_has (nI i) G = 0) : f_H_take (nI i) G P = (some (29 + P i), g2 G 27 1 (c - 1), fun j => P (shN i j)) := by
  unfold f_H_take
  rw [if_neg hh, take_loop hG hi 10 i P (by omega) (by omega)]
  congr 2
  funext j
  unfold shN
  by_cases a1 : i ≤ j ∧ j < 8
  · rw [if_pos a1, if_neg (by omega), if_pos a1.2]
  · rw [if_neg a1]
    by_cases a2 : j = 8
    · rw [if_pos a2, if_neg (by omega), if_neg (by omega), if_pos a2]
    · rw [if_neg a2]
      by_cases a3 : j < i
      · rw [if_pos a3]
      · rw [if_neg a3, if_neg (by omega), if_neg a2]
theorem move_at {v : Nat} {V : Nat → Nat → Int32} (h1 : 1 ≤ v) (h2 : v < 100) {j q : Nat} (hj : 18 ≤ j) (hj2 : j ≤ 25) : f_M_move (nI v) (nI v - 1) V j q = if q + 1 = v then V j v else V j q := by
  obtain ⟨u, rfl⟩ : ∃ u, v = u + 1 := ⟨v - 1, by omega⟩
  rw [nI_pred]
  unfold f_M_move
  try simp only [jn]
  rw [nI_clamp (by omega), nI_clamp (by omega)]
  by_cases hq : q = u
  · subst hq
    rw [if_pos rfl]
    rcases (show j = 18 ∨ j = 19 ∨ j = 20 ∨ j = 21 ∨ j = 22 ∨ j = 23 ∨ j = 24 ∨ j = 25 by omega) with e | e | e | e | e | e | e | e <;> subst e <;> simp [g2, va_up]
  · rw [if_neg (by omega), g2_col hq, g2_col hq, g2_col hq, g2_col hq, g2_col hq, g2_col hq, g2_col hq, g2_col hq]
theorem rm_loop {x : Int32} : ∀ (f v : Nat) (V : Nat → Nat → Int32), 1 ≤ v → v ≤ n → n ≤ 8 → n + 1 ≤ v + f → V 0 24 = nI n →
    (∀ j : Nat, j ≠ 0 → (j < 18 ∨ 25 < j) → f_M_remove_4 x U f (nI v) V j = V j) ∧ (∀ j : Nat, j ≠ 24 → f_M_remove_4 x U f (nI v) V 0 j = V 0 j) ∧ f_M_remove_4 x U f (nI v) V 0 24 = nI n - 1 ∧
    ∀ j q : Nat, 18 ≤ j → j ≤ 25 → f_M_remove_4 x U f (nI v) V j q = if v ≤ q + 1 ∧ q + 1 < n then V j (q + 1) else V j q := by
  intro f
  induction f with
  | zero => intro v V h1 h2 h3 h4; omega
  | succ f ih =>
    intro v V h1 h2 h3 h4 hV
    rw [f_M_remove_4, hV]
    by_cases hv : v = n
    · subst hv
      rw [if_pos (nI_le (Nat.le_refl _) (by omega))]
      refine ⟨fun j a1 _ => g2_ne _ _ _ a1, fun j a1 => g2_k _ _ _ a1, g2_at _ _ _ _, fun j q a1 a2 => ?_⟩
      rw [g2_ne _ _ _ (by omega), if_neg (by omega)]
    · rw [if_neg (nI_ge (by omega) (by omega)), nI_1]
      have hm0 : f_M_move (nI v) (nI v - 1) V 0 = V 0 := move_rows (by omega)
      obtain ⟨i1, i2, i3, i4⟩ := ih (v + 1) (f_M_move (nI v) (nI v - 1) V) (by omega) (by omega) h3 (by omega) (by rw [hm0]; exact hV)
      refine ⟨fun j a1 a2 => ?_, fun j a1 => ?_, i3, fun j q a1 a2 => ?_⟩
      · rw [i1 j a1 a2, move_rows a2]
      · rw [i2 j a1, hm0]
      · rw [i4 j q a1 a2, move_at h1 (by omega) a1 a2, move_at h1 (by omega) a1 a2]
        by_cases b1 : v + 1 ≤ q + 1 ∧ q + 1 < n
        · rw [if_pos b1, if_neg (by omega), if_pos (by omega)]
        · rw [if_neg b1]
          by_cases b2 : q + 1 = v
          · rw [if_pos b2, if_pos (by omega), b2]
          · rw [if_neg b2, if_neg (by omega)]
theorem remove_eq (hn : U 0 24 = nI n) (hn8 : n ≤ 8) (hi : i < n) : (∀ j : Nat, j ≠ 0 → (j < 18 ∨ 25 < j) → f_M_remove (nI i) U j = U j) ∧ (∀ j : Nat, j ≠ 24 → f_M_remove (nI i) U 0 j = U 0 j) ∧ f_M_remove (nI i) U 0 24 = nI (n - 1) ∧
    ∀ j q : Nat, 18 ≤ j → j ≤ 25 → f_M_remove (nI i) U j q = if i ≤ q ∧ q + 1 < n then U j (q + 1) else U j q := by
  unfold f_M_remove
  rw [nI_1]
  obtain ⟨i1, i2, i3, i4⟩ := rm_loop (x := nI i) (U := U) (n := n) 10 (i + 1) U (by omega) (by omega) hn8 (by omega) hn
  refine ⟨i1, i2, ?_, fun j q a1 a2 => ?_⟩
  · rw [i3]
    obtain ⟨u, rfl⟩ : ∃ u, n = u + 1 := ⟨n - 1, by omega⟩
    rw [nI_pred]
    rfl
  · rw [i4 j q a1 a2]
    by_cases b1 : i ≤ q ∧ q + 1 < n
    · rw [if_pos b1, if_pos (by omega)]
    · rw [if_neg b1, if_neg (by omega)]
theorem okM_mv {q q' : Nat} (hT : sameT U U') (h4 : U' 0 4 = U 0 4) (h7 : U' 0 7 = U 0 7) (hm : ∀ j : Nat, 18 ≤ j → j ≤ 25 → U' j q = U j q') (hf : ∀ j : Nat, j = 7 ∨ j = 10 ∨ j = 12 ∨ j = 13 → U' j = U j) (h : okM U q') : okM U' q := by
  have e0 : folN U' q = folN U q' := by unfold folN; rw [hm 18 (by omega) (by omega), hm 19 (by omega) (by omega), hm 20 (by omega) (by omega)]
  have e2 := recN_fr h7
  have e1 : lastN U' (folN U q') = lastN U (folN U q') := lastN_fr (by rw [hf 7 (by omega)])
  unfold okM live
  unfold okM live at h
  rw [e0, e1, e2, hT.e_dep, hT.e_epo, hT.e_nodeAt, hT.2.1, hT.2.2.1, hm 18 (by omega) (by omega), hm 19 (by omega) (by omega), hm 20 (by omega) (by omega), hm 21 (by omega) (by omega), hm 22 (by omega) (by omega), hm 23 (by omega) (by omega), hm 24 (by omega) (by omega), hm 25 (by omega) (by omega), h4, hf 10 (by omega), hf 12 (by omega), hf 13 (by omega)]
  exact h
theorem RM_mv {q q' : Nat} (hT : sameT U U') (hP : P' q = P q') (hG : ∀ r : Nat, 29 ≤ r → G' r = G r) (hm : ∀ j : Nat, 18 ≤ j → j ≤ 25 → U' j q = U j q') (h : RM G P U q') : RM G' P' U' q := by
  unfold RM
  rw [hP, hG _ (by omega), hG _ (by omega), hG _ (by omega), hT.e_dep, hT.e_nodeAt, hT.e_stampN, hT.2.2.2.1, hm 18 (by omega) (by omega), hm 23 (by omega) (by omega), hm 25 (by omega) (by omega)]
  refine ⟨fun w hw => ?_, h.2⟩
  rw [hm (18 + w) (by omega) (by omega)]
  exact h.1 w hw
/-- the message at i is taken out on both sides (row 26 may hold anything) -/
theorem take_inv (hk : k + 1 ≤ 512) (hI : Inv k G P U) (hn : U 0 24 = nI n) (hn8 : n ≤ 8) (hi : i < n) (e27 : ∀ j : Nat, j ≠ 1 → G' 27 j = G 27 j) (k27 : G' 27 1 = nI (n - 1)) (eG : ∀ r : Nat, r ≠ 27 → G' r = G r)
    (eU : ∀ j : Nat, j ≠ 0 → j < 18 → U' j = U j) (eU0 : ∀ j : Nat, j ≠ 24 → U' 0 j = U 0 j) (u24 : U' 0 24 = nI (n - 1)) (eM : ∀ j q : Nat, 18 ≤ j → j ≤ 25 → U' j q = if i ≤ q ∧ q + 1 < n then U j (q + 1) else U j q) : Inv (k + 1) G' (fun j => P (shN i j)) U' := by
  obtain ⟨_, ⟨⟨s0, s1, s2, s3, s4, s5, s6, s7⟩, hB, hM, hP, hPi, hQ9⟩, hN, hTr, hE, hZ, hO, hD, hMs, hX, hQ⟩ := hI
  have hcn : (U 0 24).toNatClampNeg = n := by rw [hn, nI_clamp (by omega)]
  have hT : sameT U U' := ⟨eU 2 (by decide) (by decide), eU 3 (by decide) (by decide), eU 4 (by decide) (by decide), eU 5 (by decide) (by decide), eU 6 (by decide) (by decide)⟩
  have e7 := recN_fr (eU0 7 (by decide))
  have src : ∀ q : Nat, q < n - 1 → ∃ q' : Nat, q' < n ∧ shN i q = q' ∧ ∀ j : Nat, 18 ≤ j → j ≤ 25 → U' j q = U j q' := fun q hq => by
    by_cases hqi : i ≤ q
    · refine ⟨q + 1, by omega, ?_, fun j a1 a2 => ?_⟩
      · unfold shN
        rw [if_neg (by omega), if_pos (by omega)]
      · rw [eM j q a1 a2, if_pos (by omega)]
    · refine ⟨q, by omega, ?_, fun j a1 a2 => ?_⟩
      · unfold shN
        rw [if_pos (by omega)]
      · rw [eM j q a1 a2, if_neg (by omega)]
  have sh9 : ∀ j : Nat, j < 9 → shN i j < 9 := fun j hj => by
    unfold shN
    split
    · omega
    · split
      · omega
      · split <;> omega
  have shI : ∀ a c : Nat, a < 9 → c < 9 → shN i a = shN i c → a = c := fun a c ha hc e => by
    unfold shN at e
    repeat' split at e
    all_goals omega
  refine ⟨hk, ⟨?_, fun b hb => ?_, fun q hq => ?_, fun j hj => hP _ (sh9 j hj), fun a c ha hc e => shI a c ha hc (hPi _ _ (sh9 a ha) (sh9 c hc) e), fun j hj => ?_⟩, ?_, ?_, fun x hx => ?_, ?_, fun b hb => ?_, fun b c hb hc e ne => ?_, fun q hq => ?_, fun x hx => ?_, fun q hq => ?_⟩
  · unfold RS
    rw [eG 0 (by decide), eG 26 (by decide), k27, eU0 0 (by decide), eU0 1 (by decide), eU0 2 (by decide), eU0 3 (by decide), eU0 4 (by decide), eU0 5 (by decide), u24, eU 1 (by decide) (by decide)]
    exact ⟨s0, s1, s2, s3, s4, s5, rfl, s7⟩
  · obtain ⟨r1, r2, r3⟩ := hB b hb
    exact ⟨RB_fr (eG _ (by omega)) (fun j a1 a2 => by rw [eU j (by omega) (by omega)]) r1, RL_fr hT (by rw [eU 7 (by decide) (by decide)]) (by rw [eG _ (by omega)]) (eG _ (by omega)) (eG _ (by omega)) r2, RK_fr (fun j _ => by rw [eG _ (by omega)]) (eG _ (by omega)) (eG _ (by omega)) (by rw [eU 11 (by decide) (by decide)]) (by rw [eU 17 (by decide) (by decide)]) (fun m _ => ⟨by rw [eU 14 (by decide) (by decide)], by rw [eU 15 (by decide) (by decide)], by rw [eU 16 (by decide) (by decide)]⟩) r3⟩
  · rw [u24, nI_clamp (by omega)] at hq
    obtain ⟨q', h1, h2, h3⟩ := src q hq
    exact RM_mv hT (by rw [h2]) (fun r hr => eG r (by omega)) h3 (hM q' (by omega))
  · rw [eG _ (by omega)]
    exact hQ9 j hj
  · obtain ⟨n1, n2, n3, n4, n5, n6, n7⟩ := hN
    unfold okN
    rw [eU0 0 (by decide), eU0 1 (by decide), eU0 2 (by decide), eU0 4 (by decide), eU0 5 (by decide), eU0 7 (by decide), u24, nI_toInt (by omega)]
    exact ⟨n1, n2, n3, ⟨n4.1, by omega⟩, n5, ⟨n6.1, by omega⟩, by omega⟩
  · rw [e7]
    exact hT.e_tree hTr
  · rw [e7] at hx
    rw [hT.e_epo, eU0 4 (by decide)]
    exact hE x hx
  · rw [eU 1 (by decide) (by decide)]
    exact hZ
  · exact okB_fr hT (eU0 4 (by decide)) (eU0 5 (by decide)) (eU0 7 (by decide)) (fun j a1 a2 => by rw [eU j (by omega) (by omega)]) (by rw [eU 17 (by decide) (by decide)]) (fun m _ => by rw [eU 14 (by decide) (by decide)]) (fun m _ => by rw [eU 15 (by decide) (by decide)]) (by omega) (hO b hb)
  · rw [eU 10 (by decide) (by decide)] at e ne
    rw [eU 11 (by decide) (by decide)]
    exact hD b c hb hc e ne
  · rw [u24, nI_clamp (by omega)] at hq
    obtain ⟨q', h1, h2, h3⟩ := src q hq
    exact okM_mv hT (eU0 4 (by decide)) (eU0 7 (by decide)) h3 (fun j hj => eU j (by omega) (by omega)) (hMs q' (by omega))
  · rw [e7] at hx
    rw [hT.1, hT.2.1]
    exact hX x hx
  · rw [eM 20 q (by omega) (by omega), eM 19 q (by omega) (by omega), eM 23 q (by omega) (by omega), eM 25 q (by omega) (by omega)]
    by_cases b1 : i ≤ q ∧ q + 1 < n
    · rw [if_pos b1, if_pos b1, if_pos b1, if_pos b1]
      exact hQ (q + 1) (by omega)
    · rw [if_neg b1, if_neg b1, if_neg b1, if_neg b1]
      exact hQ q hq
theorem cnt_n (hI : Inv k G P U) : ∃ n : Nat, n ≤ 8 ∧ U 0 24 = nI n ∧ (U 0 24).toNatClampNeg = n := by
  have h := inv_K hI
  obtain ⟨n, hn, e⟩ := nI_of (x := U 0 24) (by rw [i_lt, i0]; have := h.1; omega)
  have h2 := h.2
  rw [e, nI_toInt hn] at h2
  exact ⟨n, by omega, e, by rw [e, nI_clamp hn]⟩
theorem sim_lose : Sim_lose := by
  intro k G P U x1 x2 hk hI
  have hh := has_msg hI (x := x1)
  by_cases h : f_M_isMessage x1 U = 0
  · have e0 : f_H_take x1 G P = (none, G, P) := by unfold f_H_take; rw [hh, if_pos h]
    have e1 : f_I_lose x1 G P = (0, G, P) := by unfold f_I_lose; rw [e0]; rfl
    have e2 : f_M_lose x1 U = (0, U) := by unfold f_M_lose; rw [if_pos h]
    rw [e1, e2]
    exact ⟨rfl, Inv_same hk hI⟩
  · obtain ⟨i, hi, hi8, rfl⟩ := msg_n hI h
    obtain ⟨n, hn8, hn, hnn⟩ := cnt_n hI
    rw [hnn] at hi
    have e27 : G 27 1 = nI n := by rw [hI.2.1.1.2.2.2.2.2.2.1]; exact hn
    have e0 := take_eq (P := P) e27 hi8 (by rw [hh]; exact h)
    have e1 : f_I_lose (nI i) G P = (1, g2 G 27 1 (nI n - 1), fun j => P (shN i j)) := by unfold f_I_lose; rw [e0, if_neg (by simp)]
    have e2 : f_M_lose (nI i) U = (1, f_M_remove (nI i) U) := by unfold f_M_lose; rw [if_neg h]
    rw [e1, e2]
    refine ⟨rfl, ?_⟩
    obtain ⟨m1, m2, m3, m4⟩ := remove_eq hn hn8 hi
    show Inv (k + 1) (g2 G 27 1 (nI n - 1)) (fun j => P (shN i j)) (f_M_remove (nI i) U)
    refine take_inv hk hI hn hn8 hi (fun j hj => g2_k _ _ _ hj) ?_ (fun r hr => g2_ne _ _ _ hr) (fun j a1 a2 => m1 j a1 (by omega)) m2 m3 m4
    rw [g2_at]
    obtain ⟨u, rfl⟩ : ∃ u, n = u + 1 := ⟨n - 1, by omega⟩
    rw [nI_pred]
    rfl
end CHAN
