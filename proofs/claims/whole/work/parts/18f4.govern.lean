/-! govern. -/
theorem and1 (y : Int32) : y &&& 1 = 0 ∨ y &&& 1 = 1 := by
  obtain ⟨j, hj, e⟩ := pk_andE y (m := 1) 1 (by decide)
  have : j = 0 ∨ j = 1 := by omega
  rcases this with q | q <;> subst q
  · exact Or.inl (by rw [e]; decide)
  · exact Or.inr (by rw [e]; decide)
/-- the least of a set, one step after the other, and whether one is missing -/
def gv2 (s a m : Nat) (v : Int32) : Int32 := if s.testBit m && a.testBit m then nI m else v
def gv3 (s a m : Nat) (v : Int32) : Int32 := if v = 0 then (if s.testBit m && !a.testBit m then 1 else 0) else 1
theorem gv_all : ∀ s, s < 16 → ∀ a, a < 16 → (nI s &&& nI a) = nI (s &&& a) ∧ (s &&& a) < 16 ∧ ((nI (s &&& a) = 0) ↔ gv2 s a 0 (gv2 s a 1 (gv2 s a 2 (gv2 s a 3 (-1)))) < 0) ∧ (¬ nI (s &&& a) = 0 → f_I_leastOf (nI (s &&& a)) = gv2 s a 0 (gv2 s a 1 (gv2 s a 2 (gv2 s a 3 (-1))))) ∧ (nI (s &&& a) = nI s ↔ gv3 s a 0 (gv3 s a 1 (gv3 s a 2 (gv3 s a 3 0))) = 0) ∧ (-1 ≤ (gv2 s a 0 (gv2 s a 1 (gv2 s a 2 (gv2 s a 3 (-1))))).toInt ∧ (gv2 s a 0 (gv2 s a 1 (gv2 s a 2 (gv2 s a 3 (-1))))).toInt < 4) ∧ ∀ m, m < 4 → Nat.testBit (s &&& a) m = (s.testBit m && a.testBit m) := by decide +kernel
section GOV
variable {k : Nat} {G G' U U' : Nat → Nat → Int32} {P : Nat → Nat} {x : Int32} {s a : Nat}
theorem okM_le {i : Nat} (hT : sameT U U') (h4 : (U 0 4).toInt ≤ (U' 0 4).toInt) (h7 : U' 0 7 = U 0 7) (hf : ∀ j : Nat, j = 7 ∨ j = 10 ∨ j = 12 ∨ j = 13 ∨ (18 ≤ j ∧ j ≤ 25) → U' j = U j) (h : okM U i) : okM U' i := by
  have hm : ∀ j : Nat, 18 ≤ j → j ≤ 25 → U' j i = U j i := fun j a1 a2 => by rw [hf j (by omega)]
  have e0 := folN_eq hm
  have e1 : ∀ c : Nat, lastN U' c = lastN U c := fun c => lastN_fr (by rw [hf 7 (by omega)])
  have e2 := recN_fr h7
  unfold okM live
  unfold okM live at h
  rw [e0, e1, e2, hT.e_dep, hT.e_epo, hT.e_nodeAt, hT.2.1, hT.2.2.1, hm 18 (by omega) (by omega), hm 19 (by omega) (by omega), hm 20 (by omega) (by omega), hm 21 (by omega) (by omega), hm 22 (by omega) (by omega), hm 23 (by omega) (by omega), hm 24 (by omega) (by omega), hm 25 (by omega) (by omega), hf 10 (by omega), hf 12 (by omega), hf 13 (by omega)]
  exact ⟨h.1, h.2.1, h.2.2.1, ⟨h.2.2.2.1.1, by have := h.2.2.2.1.2; omega⟩, h.2.2.2.2⟩
/-- a new epoch -/
theorem epoch_inv (hk : k + 1 ≤ 512) (hI : Inv k G P U) {l : Int32} (hl : -1 ≤ l.toInt ∧ l.toInt < 4) (eG : ∀ r : Nat, r ≠ 26 → G' r = G r) (k0 : G' 26 0 = U 0 4 + 1) (k1 : G' 26 1 = l) (k2 : isSet (G' 26 2) (U' 1))
    (eU : ∀ j : Nat, j ≠ 0 → j ≠ 1 → U' j = U j) (eU0 : ∀ j : Nat, j ≠ 4 → j ≠ 5 → U' 0 j = U 0 j) (u4 : U' 0 4 = U 0 4 + 1) (u5 : U' 0 5 = l) : Inv (k + 1) G' P U' := by
  obtain ⟨_, ⟨⟨s0, s1, s2, s3, s4, s5, s6, s7⟩, hB, hM, hP, hPi, hQ9⟩, hN, hTr, hE, hZ, hO, hD, hMs, hX, hQ⟩ := hI
  have hT : sameT U U' := ⟨eU 2 (by decide) (by decide), eU 3 (by decide) (by decide), eU 4 (by decide) (by decide), eU 5 (by decide) (by decide), eU 6 (by decide) (by decide)⟩
  have e7 := recN_fr (eU0 7 (by decide) (by decide))
  have hce := hN.2.2.2.1
  have i4 : (U 0 4 + 1).toInt = (U 0 4).toInt + 1 := by rw [i_add (by rw [i1]; omega) (by rw [i1]; omega), i1]
  refine ⟨hk, ⟨?_, fun b hb => ?_, fun q hq => ?_, hP, hPi, fun j hj => ?_⟩, ?_, ?_, fun x hx => ?_, fun j hj => ?_, fun b hb => ?_, fun b c hb hc e ne => ?_, fun q hq => ?_, fun x hx => ?_, fun q hq => ?_⟩
  · unfold RS
    rw [eG 0 (by decide), k0, k1, eG 27 (by decide), eU0 0 (by decide) (by decide), eU0 1 (by decide) (by decide), eU0 2 (by decide) (by decide), eU0 3 (by decide) (by decide), u4, u5, eU0 24 (by decide) (by decide)]
    exact ⟨s0, s1, s2, s3, rfl, rfl, s6, k2⟩
  · obtain ⟨r1, r2, r3⟩ := hB b hb
    exact ⟨RB_fr (eG _ (by omega)) (fun j a1 a2 => by rw [eU j (by omega) (by omega)]) r1, RL_fr hT (by rw [eU 7 (by decide) (by decide)]) (by rw [eG _ (by omega)]) (eG _ (by omega)) (eG _ (by omega)) r2, RK_fr (fun j _ => by rw [eG _ (by omega)]) (eG _ (by omega)) (eG _ (by omega)) (by rw [eU 11 (by decide) (by decide)]) (by rw [eU 17 (by decide) (by decide)]) (fun m _ => ⟨by rw [eU 14 (by decide) (by decide)], by rw [eU 15 (by decide) (by decide)], by rw [eU 16 (by decide) (by decide)]⟩) r3⟩
  · rw [eU0 24 (by decide) (by decide)] at hq
    exact RM_fr hT rfl (eG _ (by omega)) (eG _ (by omega)) (eG _ (by omega)) (fun j a1 a2 => by rw [eU j (by omega) (by omega)]) (hM q hq)
  · rw [eG _ (by omega)]
    exact hQ9 j hj
  · obtain ⟨n1, n2, n3, n4, n5, n6, n7⟩ := hN
    unfold okN
    rw [eU0 0 (by decide) (by decide), eU0 1 (by decide) (by decide), eU0 2 (by decide) (by decide), u4, u5, eU0 7 (by decide) (by decide), eU0 24 (by decide) (by decide), i4]
    exact ⟨n1, n2, n3, by omega, hl, ⟨n6.1, by omega⟩, n7⟩
  · rw [e7]
    exact hT.e_tree hTr
  · rw [e7] at hx
    rw [hT.e_epo, u4, i4]
    have := hE x hx
    omega
  · obtain ⟨t, _, _, ht⟩ := k2
    rw [ht j hj]
    split
    · exact Or.inr rfl
    · exact Or.inl rfl
  · obtain ⟨a1, a2, a3, a4, a5, a6, a7, a8, a9, a10, a11, a12, a13⟩ := hO b hb
    have noN : ∀ x : Nat, x ≤ recN U → ¬ epo U x = (U 0 4).toInt + 1 := fun x hx he => by
      have := hE x hx
      omega
    unfold okB onPath
    rw [lastN_fr (U := U) (by rw [eU 7 (by decide) (by decide)]), e7, hT.e_dep, hT.e_epo, hT.e_nodeAt, u4, u5, i4, eU 7 (by decide) (by decide), eU 8 (by decide) (by decide), eU 9 (by decide) (by decide), eU 10 (by decide) (by decide), eU 11 (by decide) (by decide), eU 12 (by decide) (by decide), eU 13 (by decide) (by decide), eU 14 (by decide) (by decide), eU 15 (by decide) (by decide), eU 17 (by decide) (by decide)]
    refine ⟨a1, a2, a3, a4, ⟨a5.1, by omega⟩, ⟨a6.1, by omega⟩, a7, a8, fun q => ?_, a10, a11, a12, fun _ => ⟨fun x hx he => absurd he (noN x hx), fun _ _ x hx => noN x hx⟩⟩
    have := congrArg Int32.toInt q
    rw [i4] at this
    omega
  · rw [eU 10 (by decide) (by decide)] at e ne
    rw [eU 11 (by decide) (by decide)]
    exact hD b c hb hc e ne
  · rw [eU0 24 (by decide) (by decide)] at hq
    exact okM_le hT (by rw [u4, i4]; omega) (eU0 7 (by decide) (by decide)) (fun j hj => eU j (by omega) (by omega)) (hMs q hq)
  · rw [e7] at hx
    rw [hT.1, hT.2.1]
    exact hX x hx
  · rw [eU 20 (by decide) (by decide), eU 19 (by decide) (by decide), eU 23 (by decide) (by decide), eU 25 (by decide) (by decide)]
    exact hQ q hq
/-- the class's set of those alive -/
theorem alive_C (hI : Inv k G P U) {f m : Nat} (hm : m < 4) {c : Nat} (hc : c < 16) : f_I_govern_4 x G (f + 1) (nI c) (nI m) = f_I_govern_4 x G f (nI (if f_M_alive (nI m) x U = 0 then c else c ||| 2 ^ m)) (nI (m + 1)) := by
  have r4 := (hI.2.1.2.1 m hm).1.2.1
  obtain ⟨o1, _, _⟩ := or_bit c hc m hm
  rw [f_I_govern_4, if_neg (n4 hm)]
  unfold f_M_alive f_I_contains
  simp only [jn]
  rw [nI_1, cl4 hm, r4, o1]
  by_cases h9 : U 9 m = 0
  · rw [if_pos h9, if_pos h9, if_pos rfl]
  · rw [if_neg h9, if_neg h9]
    rcases and1 (x >>> (nI m &&& 31)) with e | e
    · rw [e, if_neg (show ¬ (0 : Int32) = 1 by decide), if_pos rfl, if_pos rfl, if_neg one_ne0]
    · rw [e, if_pos rfl, if_neg one_ne0, if_neg one_ne0, if_pos rfl]
theorem gov_step (hA : ∀ m : Nat, m < 4 → f_M_alive (nI m) x U = if a.testBit m then 1 else 0) (hS : ∀ m : Nat, m < 4 → U 1 m = if s.testBit m then 1 else 0) {f m : Nat} (hm : m < 4) {v2 v3 : Int32} : f_M_govern_7 x U (f + 1) v2 v3 (nI m) = f_M_govern_7 x U f (gv2 s a m v2) (gv3 s a m v3) (nI m + (-1)) := by
  rw [f_M_govern_7, if_neg (nI_pos (by omega))]
  simp only [jn]
  rw [cl4 hm, hS m hm, hA m hm]
  unfold gv2 gv3
  cases s.testBit m <;> cases a.testBit m <;> by_cases q : v3 = 0 <;> simp [q]
theorem loop177_step {V : Nat → Nat → Int32} {k7 : Nat} {b2 b3 b4 t1 t2 t3 : Int32} (hA : ∀ m : Nat, m < 4 → f_M_alive (nI m) x U = if a.testBit m then 1 else 0) (h9 : V 9 = U 9) {f m : Nat} (hm : m < 4) (hV : V 1 m = if s.testBit m then 1 else 0) : f_M_govern_177 x U k7 b2 b3 b4 t1 t2 t3 (f + 1) (nI m) V = f_M_govern_177 x U k7 b2 b3 b4 t1 t2 t3 f (nI (m + 1)) (g2 V 1 m (if s.testBit m && a.testBit m then 1 else 0)) := by
  have hAV : f_M_alive (nI m) x V = if a.testBit m then 1 else 0 := by
    rw [← hA m hm]
    unfold f_M_alive
    rw [h9]
  rw [f_M_govern_177, if_neg (n4 hm)]
  simp only [jn]
  rw [nI_1, cl4 hm, hV, hAV]
  cases s.testBit m <;> cases a.testBit m <;> simp
end GOV
