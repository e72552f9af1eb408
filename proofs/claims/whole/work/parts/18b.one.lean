/-! A change of one broker; the first calls. -/
section ONE
variable {k : Nat} {G G' U U' : Nat → Nat → Int32} {P : Nat → Nat} {c : Nat}
theorem Inv_oneK {k' : Nat} (hkk : k ≤ k') (hk : k' ≤ 512) (hI : Inv k G P U) (hS : RS G' U') (hZ : ∀ j : Nat, j < 4 → zb (U' 1 j))
    (gO : ∀ b : Nat, b < 4 → b ≠ c → G' (2 + b) = G (2 + b) ∧ G' (2 + b + 4) = G (2 + b + 4) ∧ G' (2 + b + 8) = G (2 + b + 8) ∧ G' (2 + b + 12) = G (2 + b + 12) ∧ G' (2 + b + 16) = G (2 + b + 16) ∧ G' (2 + b + 20) = G (2 + b + 20))
    (gM : ∀ r : Nat, 29 ≤ r → G' r = G r) (hT : sameT U U') (u0 : ∀ j : Nat, j = 0 ∨ j = 1 ∨ j = 2 ∨ j = 4 ∨ j = 5 ∨ j = 7 ∨ j = 24 → U' 0 j = U 0 j)
    (uO : ∀ j b : Nat, b ≠ c → 7 ≤ j → j ≤ 13 → U' j b = U j b) (u17 : ∀ b : Nat, b ≠ c → U' 17 b = U 17 b)
    (uK : ∀ b m : Nat, b ≠ c → m < 4 → U' 14 (4 * b + m) = U 14 (4 * b + m) ∧ U' 15 (4 * b + m) = U 15 (4 * b + m) ∧ U' 16 (4 * b + m) = U 16 (4 * b + m))
    (uM : ∀ j : Nat, 18 ≤ j → j ≤ 25 → U' j = U j)
    (h1 : c < 4 → RB G' U' c) (h2 : c < 4 → RL G' U' c) (h3 : c < 4 → RK G' U' c) (h4 : c < 4 → okB k' U' c) (h5 : ∀ b : Nat, b < 4 → c < 4 → b ≠ c → U' 10 b = U' 10 c → ¬ U' 10 b = 0 → U' 11 b = U' 11 c)
    (h6 : ∀ i : Nat, i < (U 0 24).toNatClampNeg → folN U i = c → okM U i → okM U' i) : Inv k' G' P U' := by
  obtain ⟨_, ⟨_, hB, hM, hP, hPi, hQ9⟩, hN, hTr, hE, _, hO, hD, hMs, hX, hQ⟩ := hI
  have e24 := u0 24 (by omega)
  have e7 := recN_fr (u0 7 (by omega))
  refine ⟨hk, ⟨hS, fun b hb => ?_, fun i hi => ?_, hP, hPi, fun j hj => ?_⟩, okN_fr u0 (by omega) hN, ?_, fun x hx => ?_, hZ, fun b hb => ?_, fun b d hb hd e ne => ?_, fun i hi => ?_, fun x hx => ?_, fun i hi => ?_⟩
  · by_cases hbc : b = c
    · subst hbc
      exact ⟨h1 hb, h2 hb, h3 hb⟩
    · obtain ⟨g1, g2, g3, g4, g5, g6⟩ := gO b hb hbc
      obtain ⟨r1, r2, r3⟩ := hB b hb
      exact ⟨RB_fr g1 (fun j a1 a2 => uO j b hbc (by omega) a2) r1, RL_fr hT (uO 7 b hbc (by omega) (by omega)) (by rw [g2]) g3 g4 r2, RK_fr (fun j _ => by rw [g1]) g5 g6 (uO 11 b hbc (by omega) (by omega)) (u17 b hbc) (fun m hm => uK b m hbc hm) r3⟩
  · rw [e24] at hi
    exact RM_fr hT rfl (gM _ (by omega)) (gM _ (by omega)) (gM _ (by omega)) (fun j a1 a2 => by rw [uM j a1 a2]) (hM i hi)
  · rw [gM _ (by omega)]
    exact hQ9 j hj
  · rw [e7]
    exact hT.e_tree hTr
  · rw [e7] at hx
    rw [hT.e_epo, u0 4 (by omega)]
    exact hE x hx
  · by_cases hbc : b = c
    · subst hbc
      exact h4 hb
    · exact okB_fr hT (u0 4 (by omega)) (u0 5 (by omega)) (u0 7 (by omega)) (fun j a1 a2 => uO j b hbc a1 a2) (u17 b hbc) (fun m hm => (uK b m hbc hm).1) (fun m hm => (uK b m hbc hm).2.1) (by omega) (hO b hb)
  · by_cases hbc : b = c
    · subst hbc
      by_cases hdc : d = b
      · subst hdc; rfl
      · exact (h5 d hd hb hdc e.symm (by rw [← e]; exact ne)).symm
    · by_cases hdc : d = c
      · subst hdc
        exact h5 b hb hd hbc e ne
      · rw [uO 10 b hbc (by omega) (by omega)] at e ne
        rw [uO 10 d hdc (by omega) (by omega)] at e
        rw [uO 11 b hbc (by omega) (by omega), uO 11 d hdc (by omega) (by omega)]
        exact hD b d hb hd e ne
  · rw [e24] at hi
    by_cases hf : folN U i = c
    · exact h6 i hi hf (hMs i hi)
    · exact okM_fr hT (u0 4 (by omega)) (u0 7 (by omega)) (fun j a1 a2 => by rw [uM j a1 a2]) (fun j hj => uO j _ hf (by omega) (by omega)) (hMs i hi)
  · rw [e7] at hx
    rw [hT.1, hT.2.1]
    exact hX x hx
  · rw [uM 20 (by omega) (by omega), uM 19 (by omega) (by omega), uM 23 (by omega) (by omega), uM 25 (by omega) (by omega)]
    exact hQ i hi
theorem Inv_one (hk : k + 1 ≤ 512) (hI : Inv k G P U) (hS : RS G' U') (hZ : ∀ j : Nat, j < 4 → zb (U' 1 j))
    (gO : ∀ b : Nat, b < 4 → b ≠ c → G' (2 + b) = G (2 + b) ∧ G' (2 + b + 4) = G (2 + b + 4) ∧ G' (2 + b + 8) = G (2 + b + 8) ∧ G' (2 + b + 12) = G (2 + b + 12) ∧ G' (2 + b + 16) = G (2 + b + 16) ∧ G' (2 + b + 20) = G (2 + b + 20))
    (gM : ∀ r : Nat, 29 ≤ r → G' r = G r) (hT : sameT U U') (u0 : ∀ j : Nat, j = 0 ∨ j = 1 ∨ j = 2 ∨ j = 4 ∨ j = 5 ∨ j = 7 ∨ j = 24 → U' 0 j = U 0 j)
    (uO : ∀ j b : Nat, b ≠ c → 7 ≤ j → j ≤ 13 → U' j b = U j b) (u17 : ∀ b : Nat, b ≠ c → U' 17 b = U 17 b)
    (uK : ∀ b m : Nat, b ≠ c → m < 4 → U' 14 (4 * b + m) = U 14 (4 * b + m) ∧ U' 15 (4 * b + m) = U 15 (4 * b + m) ∧ U' 16 (4 * b + m) = U 16 (4 * b + m))
    (uM : ∀ j : Nat, 18 ≤ j → j ≤ 25 → U' j = U j)
    (h1 : c < 4 → RB G' U' c) (h2 : c < 4 → RL G' U' c) (h3 : c < 4 → RK G' U' c) (h4 : c < 4 → okB (k + 1) U' c) (h5 : ∀ b : Nat, b < 4 → c < 4 → b ≠ c → U' 10 b = U' 10 c → ¬ U' 10 b = 0 → U' 11 b = U' 11 c)
    (h6 : ∀ i : Nat, i < (U 0 24).toNatClampNeg → folN U i = c → okM U i → okM U' i) : Inv (k + 1) G' P U' := Inv_oneK (Nat.le_succ k) hk hI hS hZ gO gM hT u0 uO u17 uK uM h1 h2 h3 h4 h5 h6
theorem brk {x : Int32} (h : ¬ f_I_isBroker x = 0) : ∃ b : Nat, b < 4 ∧ x = nI b := vp_in_of (isB_in h) (by decide)
theorem sB_of {b : Nat} (hb : b < 4) : f_I_isBroker (nI b) = 1 := isB_of (vp_in_nI hb (by decide))
theorem sBM_of {b : Nat} (hb : b < 4) : f_M_isBroker (nI b) = 1 := isB_of (vp_in_nI hb (by decide))
theorem one_ne0 : ¬ (1 : Int32) = 0 := by decide
theorem cl4 {b : Nat} (hb : b < 4) : (nI b).toNatClampNeg = b := nI_clamp (by omega)
theorem leads_eq (hI : Inv k G P U) {b : Nat} (hb : b < 4) : f_M_leads (nI b) U = f_B_leads (2 + b) G := by
  obtain ⟨r0, r4, r5, r6, _⟩ := (hI.2.1.2.1 b hb).1
  unfold f_M_leads f_B_leads
  rw [sBM_of hb, if_neg one_ne0, cl4 hb, r4, r6, r0]
theorem leads_zb (n : Nat) (G : Nat → Nat → Int32) : f_B_leads n G = 0 ∨ f_B_leads n G = 1 := by
  unfold f_B_leads
  split
  · exact Or.inl rfl
  · split
    · exact Or.inr rfl
    · exact Or.inl rfl
theorem isLd_eq (hI : Inv k G P U) {x : Int32} : f_I_isLeading x G = f_M_leads x U := by
  by_cases h : f_I_isBroker x = 0
  · unfold f_I_isLeading f_M_leads
    rw [if_pos h, if_pos (show f_M_isBroker x = 0 from h)]
  · obtain ⟨b, hb, rfl⟩ := brk h
    rw [leads_eq hI hb]
    unfold f_I_isLeading
    rw [if_neg h, cl4 hb]
    rcases leads_zb (2 + b) G with e | e <;> rw [e]
    · rw [if_pos rfl]
    · rw [if_neg one_ne0]
/-- what a broker that leads is -/
theorem isLd_b {x : Int32} (h : ¬ f_M_leads x U = 0) : ∃ b : Nat, b < 4 ∧ x = nI b ∧ ¬ U 9 b = 0 ∧ U 11 b = nI b := by
  unfold f_M_leads at h
  by_cases h1 : f_M_isBroker x = 0
  · rw [if_pos h1] at h; exact absurd rfl h
  · rw [if_neg h1] at h
    obtain ⟨b, hb, rfl⟩ := brk h1
    rw [cl4 hb] at h
    by_cases h2 : U 9 b = 0
    · rw [if_pos h2] at h; exact absurd rfl h
    · rw [if_neg h2] at h
      by_cases h3 : U 11 b = nI b
      · exact ⟨b, hb, rfl, h2, h3⟩
      · rw [if_neg h3] at h; exact absurd rfl h
theorem sim_flight : Sim_flight := by
  intro k G P U x1 x2 hk hI
  exact ⟨hI.2.1.1.2.2.2.2.2.2.1, Inv_same hk hI⟩
theorem sim_tick : Sim_tick := by
  intro k G P U x1 x2 hk hI
  by_cases h1 : x1 < 0
  · have e1 : f_I_tick x1 G = (0, G) := by unfold f_I_tick; rw [if_pos h1]
    have e2 : f_M_tick x1 U = (0, U) := by unfold f_M_tick; rw [if_pos h1]
    rw [e1, e2]
    exact ⟨rfl, Inv_same hk hI⟩
  · by_cases h2 : x1 ≤ 50
    · have e1 : f_I_tick x1 G = (1, g2 G 0 6 (G 0 6 + x1)) := by unfold f_I_tick; rw [if_neg h1, if_pos h2]
      have e2 : f_M_tick x1 U = (1, g2 U 0 3 (U 0 3 + x1)) := by unfold f_M_tick; rw [if_neg h1, if_pos h2]
      rw [e1, e2]
      refine ⟨rfl, ?_⟩
      show Inv (k + 1) (g2 G 0 6 (G 0 6 + x1)) P (g2 U 0 3 (U 0 3 + x1))
      obtain ⟨s0, s1, s2, s3, s4, s5, s6, s7⟩ := hI.2.1.1
      have eG : ∀ r : Nat, r ≠ 0 → g2 G 0 6 (G 0 6 + x1) r = G r := fun r h => g2_ne _ _ _ h
      have eU : ∀ r : Nat, r ≠ 0 → g2 U 0 3 (U 0 3 + x1) r = U r := fun r h => g2_ne _ _ _ h
      have eU0 : ∀ j : Nat, j ≠ 3 → g2 U 0 3 (U 0 3 + x1) 0 j = U 0 j := fun j h => g2_k _ _ _ h
      refine Inv_one (c := 4) hk hI ?_ ?_ (fun b _ _ => ⟨eG _ (by omega), eG _ (by omega), eG _ (by omega), eG _ (by omega), eG _ (by omega), eG _ (by omega)⟩) (fun r h => eG r (by omega)) ⟨eU _ (by decide), eU _ (by decide), eU _ (by decide), eU _ (by decide), eU _ (by decide)⟩ (fun j h => eU0 j (by omega)) (fun j b _ _ _ => by rw [eU j (by omega)]) (fun b _ => by rw [eU 17 (by omega)]) (fun b m _ _ => ⟨by rw [eU 14 (by omega)], by rw [eU 15 (by omega)], by rw [eU 16 (by omega)]⟩) (fun j _ _ => eU j (by omega)) (fun h => absurd h (by omega)) (fun h => absurd h (by omega)) (fun h => absurd h (by omega)) (fun h => absurd h (by omega)) (fun b _ h => absurd h (by omega)) (fun i hi h6 h7 => ?_)
      · refine ⟨?_, ?_, ?_, ?_, ?_, ?_, ?_, ?_⟩
        · rw [g2_k _ _ _ (by decide), eU0 _ (by decide)]; exact s0
        · rw [g2_k _ _ _ (by decide), eU0 _ (by decide)]; exact s1
        · rw [g2_k _ _ _ (by decide), eU0 _ (by decide)]; exact s2
        · rw [g2_at, g2_at, s3]
        · rw [eG _ (by decide), eU0 _ (by decide)]; exact s4
        · rw [eG _ (by decide), eU0 _ (by decide)]; exact s5
        · rw [eG _ (by decide), eU0 _ (by decide)]; exact s6
        · rw [eG _ (by decide), eU _ (by decide)]; exact s7
      · rw [eU 1 (by decide)]
        exact hI.2.2.2.2.2.1
      · exact okM_fr ⟨eU _ (by decide), eU _ (by decide), eU _ (by decide), eU _ (by decide), eU _ (by decide)⟩ (eU0 _ (by decide)) (eU0 _ (by decide)) (fun j _ _ => by rw [eU j (by omega)]) (fun j hj => by rw [eU j (by omega)]) h7
    · have e1 : f_I_tick x1 G = (0, G) := by unfold f_I_tick; rw [if_neg h1, if_neg h2]
      have e2 : f_M_tick x1 U = (0, U) := by unfold f_M_tick; rw [if_neg h1, if_neg h2]
      rw [e1, e2]
      exact ⟨rfl, Inv_same hk hI⟩
end ONE
