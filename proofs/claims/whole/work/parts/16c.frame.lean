/-! What a change leaves alone. -/
section FR
variable {k k' : Nat} {G G' U U' : Nat → Nat → Int32} {P P' : Nat → Nat} {b i : Nat}
theorem recN_fr (h : U' 0 7 = U 0 7) : recN U' = recN U := by unfold recN; rw [h]
theorem lastN_fr (h : U' 7 b = U 7 b) : lastN U' b = lastN U b := by unfold lastN; rw [h]
theorem okB_fr (hT : sameT U U') (h4 : U' 0 4 = U 0 4) (h5 : U' 0 5 = U 0 5) (h7 : U' 0 7 = U 0 7) (hb : ∀ j : Nat, 7 ≤ j → j ≤ 13 → U' j b = U j b) (h17 : U' 17 b = U 17 b)
    (h14 : ∀ m : Nat, m < 4 → U' 14 (4 * b + m) = U 14 (4 * b + m)) (h15 : ∀ m : Nat, m < 4 → U' 15 (4 * b + m) = U 15 (4 * b + m)) (hk : k ≤ k') (h : okB k U b) : okB k' U' b := by
  have e1 : lastN U' b = lastN U b := lastN_fr (hb 7 (by omega) (by omega))
  have e2 := recN_fr h7
  obtain ⟨a1, a2, a3, a4, a5, a6, a7, a8, a9, a10, a11, a12, a13⟩ := h
  unfold okB onPath
  rw [e1, e2, hT.e_dep, hT.e_epo, hT.e_nodeAt, hb 7 (by omega) (by omega), hb 8 (by omega) (by omega), hb 9 (by omega) (by omega), hb 10 (by omega) (by omega), hb 11 (by omega) (by omega), hb 12 (by omega) (by omega), hb 13 (by omega) (by omega), h4, h5, h17]
  refine ⟨a1, a2, a3, a4, ⟨a5.1, by omega⟩, a6, a7, a8, a9, a10, a11, fun q => ?_, a13⟩
  obtain ⟨c1, c2, c3⟩ := a12 q
  refine ⟨c1, c2, fun m hm => ?_⟩
  rw [h14 m hm, h15 m hm]
  exact c3 m hm
theorem okM_fr (hT : sameT U U') (h4 : U' 0 4 = U 0 4) (h7 : U' 0 7 = U 0 7) (hm : ∀ j : Nat, 18 ≤ j → j ≤ 25 → U' j i = U j i) (hf : ∀ j : Nat, j = 7 ∨ j = 10 ∨ j = 12 ∨ j = 13 → U' j (folN U i) = U j (folN U i)) (h : okM U i) : okM U' i := by
  have e0 : folN U' i = folN U i := by unfold folN; rw [hm 18 (by omega) (by omega), hm 19 (by omega) (by omega), hm 20 (by omega) (by omega)]
  have e1 : lastN U' (folN U i) = lastN U (folN U i) := lastN_fr (hf 7 (by omega))
  have e2 := recN_fr h7
  unfold okM live
  unfold okM live at h
  rw [e0, e1, e2, hT.e_dep, hT.e_epo, hT.e_nodeAt, hT.2.1, hT.2.2.1, hm 18 (by omega) (by omega), hm 19 (by omega) (by omega), hm 20 (by omega) (by omega), hm 21 (by omega) (by omega), hm 22 (by omega) (by omega), hm 23 (by omega) (by omega), hm 24 (by omega) (by omega), hm 25 (by omega) (by omega), h4, hf 10 (by omega), hf 12 (by omega), hf 13 (by omega)]
  exact h
theorem okN_up (hk : k ≤ k') (h : okN k U) : okN k' U := by
  obtain ⟨a1, a2, a3, a4, a5, a6, a7⟩ := h
  exact ⟨a1, a2, a3, ⟨a4.1, by omega⟩, a5, ⟨a6.1, by omega⟩, a7⟩
theorem okN_fr (h : ∀ j : Nat, j = 0 ∨ j = 1 ∨ j = 2 ∨ j = 4 ∨ j = 5 ∨ j = 7 ∨ j = 24 → U' 0 j = U 0 j) (hk : k ≤ k') (a : okN k U) : okN k' U' := by
  unfold okN
  rw [h 0 (by omega), h 1 (by omega), h 2 (by omega), h 4 (by omega), h 5 (by omega), h 7 (by omega), h 24 (by omega)]
  exact okN_up hk a
theorem RB_fr (hG : G' (2 + b) = G (2 + b)) (hU : ∀ j : Nat, 8 ≤ j → j ≤ 13 → U' j b = U j b) (h : RB G U b) : RB G' U' b := by
  unfold RB
  rw [hG, hU 8 (by omega) (by omega), hU 9 (by omega) (by omega), hU 10 (by omega) (by omega), hU 11 (by omega) (by omega), hU 12 (by omega) (by omega), hU 13 (by omega) (by omega)]
  exact h
theorem RL_fr (hT : sameT U U') (h7 : U' 7 b = U 7 b) (h1 : G' (2 + b + 4) 2 = G (2 + b + 4) 2) (h2 : G' (2 + b + 8) = G (2 + b + 8)) (h3 : G' (2 + b + 12) = G (2 + b + 12)) (h : RL G U b) : RL G' U' b := by
  unfold RL
  rw [lastN_fr h7, hT.e_dep, hT.e_nodeAt, hT.e_stampN, hT.2.2.2.1, h1, h2, h3]
  exact h
theorem RK_fr (hG : ∀ j : Nat, j = 10 ∨ j = 11 → G' (2 + b) j = G (2 + b) j) (h16 : G' (2 + b + 16) = G (2 + b + 16)) (h20 : G' (2 + b + 20) = G (2 + b + 20)) (h11 : U' 11 b = U 11 b) (h17 : U' 17 b = U 17 b)
    (hm : ∀ m : Nat, m < 4 → U' 14 (4 * b + m) = U 14 (4 * b + m) ∧ U' 15 (4 * b + m) = U 15 (4 * b + m) ∧ U' 16 (4 * b + m) = U 16 (4 * b + m)) (h : RK G U b) : RK G' U' b := by
  unfold RK
  rw [h11, hG 10 (by omega), hG 11 (by omega), h16, h20, h17]
  intro q
  obtain ⟨a1, ⟨k, a2, a3, a4⟩, a5, a6⟩ := h q
  refine ⟨a1, ⟨k, a2, a3, fun m h => ?_⟩, fun m h => ?_, fun m h => ?_⟩
  · show U' 14 (4 * b + m) = _
    rw [(hm m h).1]
    exact a4 m h
  · rw [(hm m h).2.1]
    exact a5 m h
  · rw [(hm m h).2.2]
    exact a6 m h
theorem RM_fr (hT : sameT U U') (hP : P' i = P i) (hG : G' (29 + P i) = G (29 + P i)) (h9 : G' (29 + P i + 9) = G (29 + P i + 9)) (h18 : G' (29 + P i + 18) = G (29 + P i + 18)) (hm : ∀ j : Nat, 18 ≤ j → j ≤ 25 → U' j i = U j i) (h : RM G P U i) : RM G' P' U' i := by
  unfold RM
  rw [hP, hG, h9, h18, hT.e_dep, hT.e_nodeAt, hT.e_stampN, hT.2.2.2.1, hm 18 (by omega) (by omega), hm 23 (by omega) (by omega), hm 25 (by omega) (by omega)]
  refine ⟨fun w hw => ?_, h.2⟩
  rw [hm (18 + w) (by omega) (by omega)]
  exact h.1 w hw
theorem isSet_eq {x : Int32} {f g : Nat → Int32} (h : isSet x f) (e : ∀ m : Nat, m < 4 → g m = f m) : isSet x g := by
  obtain ⟨k, a2, a3, a4⟩ := h
  exact ⟨k, a2, a3, fun m hm => (e m hm).trans (a4 m hm)⟩
/-- the tree, the controller, the channel and all brokers' words are as they were: only the count of calls grew -/
theorem Inv_same (hk : k + 1 ≤ 512) (h : Inv k G P U) : Inv (k + 1) G P U := by
  obtain ⟨_, hR, hN, hT, hE, hZ, hB, hD, hM, hX, hQ⟩ := h
  exact ⟨hk, hR, okN_up (by omega) hN, hT, hE, hZ, fun b hb => okB_fr ⟨rfl, rfl, rfl, rfl, rfl⟩ rfl rfl rfl (fun _ _ _ => rfl) rfl (fun _ _ => rfl) (fun _ _ => rfl) (by omega) (hB b hb), hD, hM, hX, hQ⟩
end FR
