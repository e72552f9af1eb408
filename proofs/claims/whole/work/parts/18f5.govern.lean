section GOV2
variable {k : Nat} {G U : Nat → Nat → Int32} {P : Nat → Nat} {x : Int32} {s a : Nat}
theorem alive_zb (m : Int32) : f_M_alive m x U = 0 ∨ f_M_alive m x U = 1 := by
  unfold f_M_alive
  split
  · exact Or.inl rfl
  · split
    · exact Or.inr rfl
    · exact Or.inl rfl
theorem alive_loop (hI : Inv k G P U) : ∀ (f m c : Nat), m + f = 5 → m ≤ 4 → c < 16 → (∀ q : Nat, q < m → f_M_alive (nI q) x U = if c.testBit q then 1 else 0) → (∀ q : Nat, m ≤ q → q < 4 → c.testBit q = false) →
    ∃ a : Nat, a < 16 ∧ (∀ q : Nat, q < 4 → f_M_alive (nI q) x U = if a.testBit q then 1 else 0) ∧ f_I_govern_4 x G f (nI c) (nI m) = f_T_reactTo (nI a) G := by
  intro f
  induction f with
  | zero => intro m c h1 h2; omega
  | succ f ih =>
    intro m c h1 h2 hc hq hf
    by_cases hm : m = 4
    · subst hm
      exact ⟨c, hc, hq, by rw [f_I_govern_4, if_pos (by decide)]⟩
    · have hm4 : m < 4 := by omega
      obtain ⟨o1, o2, o3⟩ := or_bit c hc m hm4
      rw [alive_C hI hm4 hc]
      rcases alive_zb (U := U) (x := x) (nI m) with e | e
      · rw [if_pos e]
        refine ih (m + 1) c (by omega) (by omega) hc (fun q h => ?_) (fun q h1 h2 => hf q (by omega) h2)
        by_cases z : q = m
        · subst z
          rw [e, hf q (Nat.le_refl _) hm4]
          rfl
        · exact hq q (by omega)
      · rw [if_neg (by rw [e]; exact one_ne0)]
        refine ih (m + 1) (c ||| 2 ^ m) (by omega) (by omega) o2 (fun q h => ?_) (fun q h1 h2 => ?_)
        · rw [o3 q (by omega)]
          by_cases z : q = m
          · subst z
            rw [e]
            simp
          · rw [hq q (by omega)]
            simp [z]
        · rw [o3 q h2, hf q (by omega) h2]
          simp
          omega
theorem loop177_all {k7 : Nat} {b2 b3 b4 t1 t2 t : Int32} (hA : ∀ m : Nat, m < 4 → f_M_alive (nI m) x U = if a.testBit m then 1 else 0) (hS : ∀ m : Nat, m < 4 → U 1 m = if s.testBit m then 1 else 0) : ∃ U' : Nat → Nat → Int32, f_M_govern_177 x U k7 b2 b3 b4 t1 t2 t 5 0 (g2 U 0 5 t) = (1, U') ∧ (∀ j : Nat, j ≠ 0 → j ≠ 1 → U' j = U j) ∧ (∀ j : Nat, j ≠ 4 → j ≠ 5 → U' 0 j = U 0 j) ∧ U' 0 4 = U 0 4 + 1 ∧ U' 0 5 = t ∧ ∀ m : Nat, m < 4 → U' 1 m = if s.testBit m && a.testBit m then 1 else 0 := by
  rw [show f_M_govern_177 x U k7 b2 b3 b4 t1 t2 t 5 0 (g2 U 0 5 t) = f_M_govern_177 x U k7 b2 b3 b4 t1 t2 t 5 (nI 0) (g2 U 0 5 t) by rw [nI_0]]
  rw [loop177_step (s := s) hA (by rw [g2_ne _ _ _ (by decide)]) (by decide) (by rw [g2_ne _ _ _ (by decide)]; exact hS 0 (by decide))]
  rw [loop177_step (s := s) hA (by rw [g2_ne _ _ _ (by decide), g2_ne _ _ _ (by decide)]) (by decide) (by rw [g2_k _ _ _ (by decide), g2_ne _ _ _ (by decide)]; exact hS 1 (by decide))]
  rw [loop177_step (s := s) hA (by rw [g2_ne _ _ _ (by decide), g2_ne _ _ _ (by decide), g2_ne _ _ _ (by decide)]) (by decide) (by rw [g2_k _ _ _ (by decide), g2_k _ _ _ (by decide), g2_ne _ _ _ (by decide)]; exact hS 2 (by decide))]
  rw [loop177_step (s := s) hA (by rw [g2_ne _ _ _ (by decide), g2_ne _ _ _ (by decide), g2_ne _ _ _ (by decide), g2_ne _ _ _ (by decide)]) (by decide) (by rw [g2_k _ _ _ (by decide), g2_k _ _ _ (by decide), g2_k _ _ _ (by decide), g2_ne _ _ _ (by decide)]; exact hS 3 (by decide))]
  rw [f_M_govern_177, if_pos (by decide)]
  refine ⟨_, rfl, fun j a1 a2 => ?_, fun j a1 a2 => ?_, ?_, ?_, fun m hm => ?_⟩
  · rw [g2_ne _ _ _ a1, g2_ne _ _ _ a2, g2_ne _ _ _ a2, g2_ne _ _ _ a2, g2_ne _ _ _ a2, g2_ne _ _ _ a1]
  · rw [g2_k _ _ _ a1, g2_ne _ _ _ (by decide), g2_ne _ _ _ (by decide), g2_ne _ _ _ (by decide), g2_ne _ _ _ (by decide), g2_k _ _ _ a2]
  · rw [g2_at, g2_ne _ _ _ (by decide), g2_ne _ _ _ (by decide), g2_ne _ _ _ (by decide), g2_ne _ _ _ (by decide), g2_k _ _ _ (by decide)]
  · rw [g2_k _ _ _ (by decide), g2_ne _ _ _ (by decide), g2_ne _ _ _ (by decide), g2_ne _ _ _ (by decide), g2_ne _ _ _ (by decide), g2_at]
  · rw [g2_ne _ _ _ (by decide)]
    rcases (show m = 0 ∨ m = 1 ∨ m = 2 ∨ m = 3 by omega) with e | e | e | e <;> subst e
    · rw [g2_k _ _ _ (by decide), g2_k _ _ _ (by decide), g2_k _ _ _ (by decide), g2_at]
    · rw [g2_k _ _ _ (by decide), g2_k _ _ _ (by decide), g2_at]
    · rw [g2_k _ _ _ (by decide), g2_at]
    · rw [g2_at]
theorem begin_facts {l z : Int32} : (f_T_begin l z G).1 = 1 ∧ (∀ r : Nat, r ≠ 26 → (f_T_begin l z G).2 r = G r) ∧ (f_T_begin l z G).2 26 0 = G 26 0 + 1 ∧ (f_T_begin l z G).2 26 1 = l ∧ (f_T_begin l z G).2 26 2 = z := by
  unfold f_T_begin
  refine ⟨rfl, fun r hr => ?_, ?_, ?_, ?_⟩
  · show g2 (g2 (g2 G 26 1 l) 26 2 z) 26 0 (g2 (g2 G 26 1 l) 26 2 z 26 0 + 1) r = G r
    rw [g2_ne _ _ _ hr, g2_ne _ _ _ hr, g2_ne _ _ _ hr]
  · show g2 (g2 (g2 G 26 1 l) 26 2 z) 26 0 (g2 (g2 G 26 1 l) 26 2 z 26 0 + 1) 26 0 = G 26 0 + 1
    rw [g2_at, g2_k _ _ _ (by decide), g2_k _ _ _ (by decide)]
  · show g2 (g2 (g2 G 26 1 l) 26 2 z) 26 0 (g2 (g2 G 26 1 l) 26 2 z 26 0 + 1) 26 1 = l
    rw [g2_k _ _ _ (by decide), g2_k _ _ _ (by decide), g2_at]
  · show g2 (g2 (g2 G 26 1 l) 26 2 z) 26 0 (g2 (g2 G 26 1 l) 26 2 z 26 0 + 1) 26 2 = z
    rw [g2_k _ _ _ (by decide), g2_at]
theorem sim_govern : Sim_govern := by
  intro k G P U x1 x2 hk hI
  obtain ⟨s0, s1, s2, s3, s4, s5, s6, ⟨s, hs, es, hS⟩⟩ := hI.2.1.1
  obtain ⟨a, ha, hA, eC⟩ := alive_loop (x := x1) hI 5 0 0 rfl (by omega) (by decide) (fun q h => by omega) (fun q _ _ => by simp)
  obtain ⟨w1, w2, w3, w4, w5, w6, w7⟩ := gv_all s hs a ha
  have eI : f_I_govern x1 G = f_T_reactTo (nI a) G := by
    rw [← eC, nI_0]
    rfl
  have hcl := hI.2.2.1.2.2.2.2.1
  -- the reference's first loop
  have e7 : f_M_govern x1 U = f_M_govern_7 x1 U 1 (gv2 s a 0 (gv2 s a 1 (gv2 s a 2 (gv2 s a 3 (-1))))) (gv3 s a 0 (gv3 s a 1 (gv3 s a 2 (gv3 s a 3 0)))) (-1) := by
    unfold f_M_govern
    rw [show f_M_govern_7 x1 U 5 (-1) 0 3 = f_M_govern_7 x1 U 5 (-1) 0 (nI 3) by rw [show nI 3 = (3 : Int32) by decide], gov_step hA hS (by decide), pk_m1, gov_step hA hS (by decide), pk_m1, gov_step hA hS (by decide), pk_m1, gov_step hA hS (by decide), show nI 0 + (-1) = (-1 : Int32) by decide]
  generalize gv2 s a 0 (gv2 s a 1 (gv2 s a 2 (gv2 s a 3 (-1)))) = F at w3 w4 w6 e7
  generalize gv3 s a 0 (gv3 s a 1 (gv3 s a 2 (gv3 s a 3 0))) = M at w5 e7
  have hset : ∀ V : Nat → Nat → Int32, (∀ m : Nat, m < 4 → V 1 m = if s.testBit m && a.testBit m then 1 else 0) → isSet (nI (s &&& a)) (V 1) := fun V hV => ⟨s &&& a, w2, rfl, fun m hm => by rw [hV m hm, w7 m hm]⟩
  have hF : (0 ≤ F) ↔ ¬ nI (s &&& a) = 0 := by
    rw [w3, i_lt, i_le, i0]
    omega
  have hL : (U 0 5 < 0) ↔ U 0 5 = -1 := by
    rw [i_lt, i0]
    constructor
    · intro q
      exact Int32.toInt_inj.mp (by rw [im1]; omega)
    · intro q
      rw [q, im1]
      omega
  have b1 : ∀ l z : Int32, (f_T_begin l z G).1 = 1 := fun l z => rfl
  rw [eI, e7]
  by_cases hz : nI (s &&& a) = 0
  · have hF2 : ¬ 0 ≤ F := fun q => hF.mp q hz
    by_cases hm : U 0 5 = -1
    · have hm2 := hL.mpr hm
      have e : g2 (g2 U 0 5 (-1)) 0 4 (U 0 4) = U := by
        rw [← hm, g2_same]
        exact g2_same U 0 4
      have eM : f_M_govern_7 x1 U 1 F M (-1) = (0, U) := by
        rw [f_M_govern_7, if_pos (by decide)]
        simp only [jn, if_pos hm2, if_neg hF2, if_true, e]
      have eT : f_T_reactTo (nI a) G = (0, G) := by
        unfold f_T_reactTo
        simp only [jn]
        rw [es, w1, s5, if_pos hm, if_pos hz, if_pos hm]
      rw [eM, eT]
      exact ⟨rfl, Inv_same hk hI⟩
    · have hm2 : ¬ U 0 5 < 0 := fun q => hm (hL.mp q)
      have eM : f_M_govern_7 x1 U 1 F M (-1) = (1, g2 (g2 U 0 5 (-1)) 0 4 (U 0 4 + 1)) := by
        rw [f_M_govern_7, if_pos (by decide)]
        simp only [jn, if_neg hm2, if_neg hF2, if_neg one_ne0]
      have eT : f_T_reactTo (nI a) G = (1, (f_T_begin (-1) (nI s) G).2) := by
        unfold f_T_reactTo
        simp only [jn]
        rw [es, w1, s5, if_neg hm, if_pos hz, if_neg hm, b1, if_neg one_ne0]
        split <;> rfl
      rw [eM, eT]
      refine ⟨rfl, ?_⟩
      obtain ⟨_, b2, b3, b4, b5⟩ := begin_facts (G := G) (l := -1) (z := nI s)
      show Inv (k + 1) (f_T_begin (-1) (nI s) G).2 P (g2 (g2 U 0 5 (-1)) 0 4 (U 0 4 + 1))
      refine epoch_inv hk hI (l := -1) (by rw [im1]; omega) b2 (by rw [b3, s4]) b4 ?_ (fun j a1 a2 => by rw [g2_ne _ _ _ a1, g2_ne _ _ _ a1]) (fun j a1 a2 => by rw [g2_k _ _ _ a1, g2_k _ _ _ a2]) (g2_at _ _ _ _) (by rw [g2_k _ _ _ (by decide), g2_at])
      rw [b5, g2_ne _ _ _ (by decide), g2_ne _ _ _ (by decide)]
      exact ⟨s, hs, rfl, hS⟩
  · have hF2 : 0 ≤ F := hF.mpr hz
    -- a new leader out of those that remain
    have new : ∀ t U', (∀ j : Nat, j ≠ 0 → j ≠ 1 → U' j = U j) ∧ (∀ j : Nat, j ≠ 4 → j ≠ 5 → U' 0 j = U 0 j) ∧ U' 0 4 = U 0 4 + 1 ∧ U' 0 5 = t ∧ (∀ m : Nat, m < 4 → U' 1 m = if s.testBit m && a.testBit m then 1 else 0) → (-1 ≤ t.toInt ∧ t.toInt < 4) → Inv (k + 1) (f_T_begin t (nI (s &&& a)) G).2 P U' := fun t U' h ht => by
      obtain ⟨_, b2, b3, b4, b5⟩ := begin_facts (G := G) (l := t) (z := nI (s &&& a))
      exact epoch_inv hk hI ht b2 (by rw [b3, s4]) b4 (by rw [b5]; exact hset U' h.2.2.2.2) h.1 h.2.1 h.2.2.1 h.2.2.2.1
    by_cases hm : U 0 5 = -1
    · have hm2 := hL.mpr hm
      have eT : f_T_reactTo (nI a) G = (1, (f_T_begin F (nI (s &&& a)) G).2) := by
        unfold f_T_reactTo
        simp only [jn]
        rw [es, w1, s5, if_pos hm, if_neg hz, if_pos trivial, if_pos trivial, w4 hz, b1]
      obtain ⟨U', eL, hU'⟩ := loop177_all (x := x1) (k7 := 0) (b2 := F) (b3 := M) (b4 := -1) (t1 := 0) (t2 := 0) (t := F) hA hS
      have eM : f_M_govern_7 x1 U 1 F M (-1) = (1, U') := by
        rw [← eL, f_M_govern_7, if_pos (by decide)]
        simp only [jn, if_pos hm2, if_pos hF2, if_true]
      rw [eM, eT]
      exact ⟨rfl, new F U' hU' w6⟩
    · have hm2 : ¬ U 0 5 < 0 := fun q => hm (hL.mp q)
      obtain ⟨l, hl, el⟩ : ∃ l : Nat, l < 4 ∧ U 0 5 = nI l := by
        obtain ⟨l, hl, e⟩ := nI_of hm2
        rw [e, nI_toInt hl] at hcl
        exact ⟨l, by omega, e⟩
      have hAl : f_M_alive (U 0 5) x1 U = if a.testBit l then 1 else 0 := by rw [el]; exact hA l hl
      have hCl : f_I_contains (nI a) (U 0 5) = if a.testBit l then 1 else 0 := by rw [el]; exact cont_bit a ha l hl
      by_cases hw : (if a.testBit l then (1 : Int32) else 0) = 0
      · have eT : f_T_reactTo (nI a) G = (1, (f_T_begin F (nI (s &&& a)) G).2) := by
          unfold f_T_reactTo
          simp only [jn]
          rw [es, w1, s5, if_neg hm, hCl, if_pos hw, if_neg hz, if_pos trivial, if_pos trivial, w4 hz, b1]
        obtain ⟨U', eL, hU'⟩ := loop177_all (x := x1) (k7 := 0) (b2 := F) (b3 := M) (b4 := -1) (t1 := 1) (t2 := 0) (t := F) hA hS
        have eM : f_M_govern_7 x1 U 1 F M (-1) = (1, U') := by
          rw [← eL, f_M_govern_7, if_pos (by decide)]
          simp only [jn, if_neg hm2, if_pos hF2, if_neg one_ne0, hAl, if_pos hw, if_true]
        rw [eM, eT]
        exact ⟨rfl, new F U' hU' w6⟩
      · by_cases hM : M = 0
        · have hM2 := w5.mpr hM
          have eT : f_T_reactTo (nI a) G = (0, G) := by
            unfold f_T_reactTo
            simp only [jn]
            rw [es, w1, s5, if_neg hm, hCl, if_neg hw, if_neg hz, if_neg one_ne0, if_pos hM2]
          have eM : f_M_govern_7 x1 U 1 F M (-1) = (0, U) := by
            rw [f_M_govern_7, if_pos (by decide)]
            simp only [jn, if_neg hm2, if_pos hF2, if_neg one_ne0, hAl, if_neg hw, if_pos hM]
          rw [eM, eT]
          exact ⟨rfl, Inv_same hk hI⟩
        · have hM2 : ¬ nI (s &&& a) = nI s := fun q => hM (w5.mp q)
          have eT : f_T_reactTo (nI a) G = (1, (f_T_begin (U 0 5) (nI (s &&& a)) G).2) := by
            unfold f_T_reactTo
            simp only [jn]
            rw [es, w1, s5, if_neg hm, hCl, if_neg hw, if_neg hz, if_neg one_ne0, if_neg hM2, if_neg one_ne0, b1]
          obtain ⟨U', eL, hU'⟩ := loop177_all (x := x1) (k7 := 0) (b2 := F) (b3 := M) (b4 := -1) (t1 := 1) (t2 := 1) (t := U 0 5) hA hS
          have eM : f_M_govern_7 x1 U 1 F M (-1) = (1, U') := by
            rw [← eL, f_M_govern_7, if_pos (by decide)]
            simp only [jn, if_neg hm2, if_pos hF2, if_neg one_ne0, hAl, if_neg hw, if_neg hM]
          rw [eM, eT]
          exact ⟨rfl, new (U 0 5) U' hU' hcl⟩
end GOV2
