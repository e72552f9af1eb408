/-! What the methods' contracts ask for, out of the invariant. -/
section INV
variable {k : Nat} {G U : Nat → Nat → Int32} {P : Nat → Nat}
theorem inv_dep (hI : Inv k G P U) {b : Nat} (hb : b < 4) : dep U (lastN U b) ≤ 40 := hI.2.2.2.1.dep_le (hI.2.2.2.2.2.2.1 b hb).1.2
theorem inv_E (hI : Inv k G P U) : ∀ j : Nat, j < 4 → okL G (2 + j + 4) := fun j hj => by
  have h1 := inv_dep hI hj
  have h2 := (hI.2.1.2.1 j hj).2.1.1
  unfold okL
  rw [h2, nI_toInt (by omega)]
  omega
theorem inv_P (hI : Inv k G P U) : ∀ j : Nat, j < 9 → P j < 9 := hI.2.1.2.2.2.1
theorem inv_H (hI : Inv k G P U) : okH G := by
  unfold okH
  rw [hI.2.1.1.2.2.2.2.2.2.1]
  exact hI.2.2.1.2.2.2.2.2.2
theorem inv_W (hI : Inv k G P U) : ∀ j : Nat, j < 4 → okW G (2 + j) := fun j hj => by
  unfold okW
  rw [(hI.2.1.2.1 j hj).1.2.2.2.2.1]
  exact (hI.2.2.2.2.2.2.1 j hj).2.1
theorem inv_Q (hI : Inv k G P U) : ∀ j : Nat, j < 9 → vp_in (G (29 + j) 4) 4 ∧ vp_in (G (29 + j) 3) 4 := hI.2.1.2.2.2.2.2
theorem inv_rec (hI : Inv k G P U) : recN U ≤ 512 ∧ (U 0 7).toInt = (recN U : Int) := by
  have h1 := hI.2.2.1.2.2.2.2.2.1
  have h2 := hI.1
  have h3 := cl_of h1.1
  unfold recN
  omega
theorem inv_T (hI : Inv k G P U) : okT U := by
  have hr := (inv_rec hI).1
  have hT := hI.2.2.2.1
  refine ⟨fun j hj => ?_, fun x hx h0 => ?_, hT.2.1.2.1⟩
  · obtain ⟨h1, h2⟩ := (hI.2.2.2.2.2.2.1 j hj).1
    rw [h1]
    exact vp_in_nI (by omega) (by decide)
  · by_cases h : x ≤ recN U
    · obtain ⟨e1, e2, _⟩ := hT.2.2.1 x h0 h
      rw [e2, nI_toInt (by omega)]
      omega
    · rw [(hI.2.2.2.2.2.2.2.2.2.1 x (by omega)).1, i0]
      omega
theorem inv_R (hI : Inv k G P U) : 0 ≤ (U 0 7).toInt ∧ (U 0 7).toInt < 519 := by
  have h := inv_rec hI
  omega
theorem inv_last (hI : Inv k G P U) : ∀ j : Nat, j < 4 → (U 7 j).toInt ≤ (U 0 7).toInt := fun j hj => by
  obtain ⟨h1, h2⟩ := (hI.2.2.2.2.2.2.1 j hj).1
  have h := inv_rec hI
  rw [h1, nI_toInt (by omega)]
  omega
theorem inv_hH (hI : Inv k G P U) : ∀ j : Nat, j < 4 → 0 ≤ (U 8 j).toInt := fun j hj => (hI.2.2.2.2.2.2.1 j hj).2.1.1
theorem inv_K (hI : Inv k G P U) : okK U := hI.2.2.1.2.2.2.2.2.2
theorem inv_okQ (hI : Inv k G P U) : okQ U := hI.2.2.2.2.2.2.2.2.2.2
theorem inv_B (hI : Inv k G P U) : 1 ≤ (U 0 1).toInt ∧ (U 0 1).toInt ≤ 3 := hI.2.2.1.2.1
theorem inv_D (hI : Inv k G P U) : ∀ x : Nat, x < 520 → 0 ≤ (U 3 x).toInt := fun x hx => by
  by_cases h : x ≤ recN U
  · have hT := hI.2.2.2.1
    have h1 := hT.dep_le h
    rw [hT.dep_n h, nI_toInt (by omega)]
    omega
  · rw [(hI.2.2.2.2.2.2.2.2.2.1 x (by omega)).2, i0]
    omega
theorem inv_L (hI : Inv k G P U) : (U 0 5).toInt < 4 := hI.2.2.1.2.2.2.2.1.2
theorem inv_Z (hI : Inv k G P U) : ∀ j : Nat, j < 4 → zb (U 1 j) := hI.2.2.2.2.2.1
end INV
