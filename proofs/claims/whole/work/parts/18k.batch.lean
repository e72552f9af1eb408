section BAT
variable {k : Nat} {G U : Nat → Nat → Int32} {P : Nat → Nat} {b f a q : Nat} {e : Int32}
theorem note_sim (hI : Inv k G P U) (hb : b < 4) (hl : U 11 b = nI b) (hf4 : f < 4) (ha : a ≤ 40) : ∃ (v c w : Int32), f_B_noteFetched (2 + b) (nI f) (nI a) (U 0 3) G = g2 (g2 (g2 G (2 + b + 16) f v) (2 + b + 20) f c) (2 + b) 7 w ∧ v = (if nI a ≤ U 15 (4 * b + f) then U 15 (4 * b + f) else nI a) ∧ c = (if a = dep U (lastN U b) then U 0 3 else U 16 (4 * b + f)) ∧ f_M_rise (nI b) (g2 (g2 U 15 (4 * b + f) v) 16 (4 * b + f) c) = g2 (g2 (g2 U 15 (4 * b + f) v) 16 (4 * b + f) c) 8 b w ∧ Inv k (g2 (g2 (g2 G (2 + b + 16) f v) (2 + b + 20) f c) (2 + b) 7 w) P (g2 (g2 (g2 U 15 (4 * b + f) v) 16 (4 * b + f) c) 8 b w) := by
  have h40 := inv_dep hI hb
  have hT0 := hI.2.2.2.1
  have hrec := inv_rec hI
  have hO := hI.2.2.2.2.2.2.1 b hb
  obtain ⟨l1, l2⟩ := hO.1
  obtain ⟨⟨r0, r4, r5, r6, r7, r8, r9⟩, r2, r3⟩ := hI.2.1.2.1 b hb
  obtain ⟨c1, c2, c3, c4⟩ := r3 hl
  obtain ⟨o1, o2, o3⟩ := hO.2.2.2.2.2.2.2.2.2.2.2.1 hl
  obtain ⟨s0, s1, s2, s3, s4, s5, s6, s7⟩ := hI.2.1.1
  refine ⟨(if nI a ≤ U 15 (4 * b + f) then U 15 (4 * b + f) else nI a), (if a = dep U (lastN U b) then U 0 3 else U 16 (4 * b + f)), ?_⟩
  have hv : (if G (2 + b + 16) f < nI a then nI a else G (2 + b + 16) f) = (if nI a ≤ U 15 (4 * b + f) then U 15 (4 * b + f) else nI a) := by
    rw [c3 f hf4]
    by_cases z : nI a ≤ U 15 (4 * b + f)
    · rw [if_pos z, if_neg (by rw [i_lt]; rw [i_le] at z; omega)]
    · rw [if_neg z, if_pos (by rw [i_lt]; rw [i_le] at z; omega)]
  have hvr : -1 ≤ (if nI a ≤ U 15 (4 * b + f) then U 15 (4 * b + f) else nI a).toInt ∧ (if nI a ≤ U 15 (4 * b + f) then U 15 (4 * b + f) else nI a).toInt ≤ 40 := by
    split
    · exact (o3 f hf4).1
    · rw [nI_toInt (by omega)]; omega
  have eN : f_B_noteFetched (2 + b) (nI f) (nI a) (U 0 3) G = f_B_raiseHw (2 + b) (g2 (g2 G (2 + b + 16) f (if nI a ≤ U 15 (4 * b + f) then U 15 (4 * b + f) else nI a)) (2 + b + 20) f (if a = dep U (lastN U b) then U 0 3 else U 16 (4 * b + f))) := by
    unfold f_B_noteFetched
    rw [cl4 hf4, hv]
    generalize (if nI a ≤ U 15 (4 * b + f) then U 15 (4 * b + f) else nI a) = v
    rw [show g2 G (2 + b + 16) f v (2 + b + 4) 2 = nI (dep U (lastN U b)) by rw [g2_ne _ _ _ (by omega)]; exact r2.1]
    by_cases z : a = dep U (lastN U b)
    · rw [if_pos (by rw [z]), if_pos z]
    · rw [if_neg (fun y => z ((nI_eq (by omega) (by omega)).mp y)), if_neg z]
      rw [show g2 (g2 G (2 + b + 16) f v) (2 + b + 20) f (U 16 (4 * b + f)) = g2 G (2 + b + 16) f v by
        rw [← c4 f hf4, show G (2 + b + 20) f = g2 G (2 + b + 16) f v (2 + b + 20) f by rw [g2_ne _ _ _ (by omega)]]
        exact g2_same _ _ _]
  rw [eN]
  generalize (if nI a ≤ U 15 (4 * b + f) then U 15 (4 * b + f) else nI a) = v at hvr
  generalize (if a = dep U (lastN U b) then U 0 3 else U 16 (4 * b + f)) = c
  have gR : ∀ r : Nat, r ≠ 2 + b + 16 → r ≠ 2 + b + 20 → g2 (g2 G (2 + b + 16) f v) (2 + b + 20) f c r = G r := fun r a1 a2 => by rw [g2_ne _ _ _ a2, g2_ne _ _ _ a1]
  have g16 : ∀ m : Nat, m < 4 → g2 (g2 G (2 + b + 16) f v) (2 + b + 20) f c (2 + b + 16) m = g2 (g2 U 15 (4 * b + f) v) 16 (4 * b + f) c 15 (4 * b + m) := fun m hm => by
    rw [show g2 (g2 G (2 + b + 16) f v) (2 + b + 20) f c (2 + b + 16) m = g2 G (2 + b + 16) f v (2 + b + 16) m by rw [g2_ne _ _ _ (by omega)], show g2 (g2 U 15 (4 * b + f) v) 16 (4 * b + f) c 15 (4 * b + m) = g2 U 15 (4 * b + f) v 15 (4 * b + m) by rw [g2_ne _ _ _ (by decide)]]
    by_cases z : m = f
    · subst z
      rw [g2_at, g2_at]
    · rw [g2_k _ _ _ z, g2_k _ _ _ (by omega)]
      exact c3 m hm
  have g20 : ∀ m : Nat, m < 4 → g2 (g2 G (2 + b + 16) f v) (2 + b + 20) f c (2 + b + 20) m = g2 (g2 U 15 (4 * b + f) v) 16 (4 * b + f) c 16 (4 * b + m) := fun m hm => by
    by_cases z : m = f
    · subst z
      rw [g2_at, g2_at]
    · rw [g2_k _ _ _ z, g2_k _ _ _ (by omega), g2_ne _ _ _ (by omega), g2_ne _ _ _ (by decide)]
      exact c4 m hm
  have uR : ∀ j : Nat, j ≠ 15 → j ≠ 16 → g2 (g2 U 15 (4 * b + f) v) 16 (4 * b + f) c j = U j := fun j a1 a2 => by rw [g2_ne _ _ _ a2, g2_ne _ _ _ a1]
  have u15 : ∀ m : Nat, m < 4 → -1 ≤ (g2 (g2 U 15 (4 * b + f) v) 16 (4 * b + f) c 15 (4 * b + m)).toInt ∧ (g2 (g2 U 15 (4 * b + f) v) 16 (4 * b + f) c 15 (4 * b + m)).toInt ≤ 40 := fun m hm => by
    rw [g2_ne _ _ _ (by decide)]
    by_cases z : m = f
    · subst z
      rw [g2_at]; exact hvr
    · rw [g2_k _ _ _ (by omega)]
      exact (o3 m hm).1
  have uC : ∀ j c' m : Nat, c' ≠ b → m < 4 → g2 (g2 U 15 (4 * b + f) v) 16 (4 * b + f) c j (4 * c' + m) = U j (4 * c' + m) := fun j c' m h1 h2 => by rw [g2_col (by omega), g2_col (by omega)]
  generalize g2 (g2 G (2 + b + 16) f v) (2 + b + 20) f c = GA at gR g16 g20 ⊢
  generalize g2 (g2 U 15 (4 * b + f) v) 16 (4 * b + f) c = UA at g16 g20 uR u15 uC ⊢
  obtain ⟨w, hw, w1, w2⟩ := raise_sim (G := GA) (V := UA) (n := 2 + b) (b := b) (d := dep U (lastN U b)) (by rw [gR _ (by omega) (by omega)]; exact r0) hb (by rw [gR _ (by omega) (by omega), uR 8 (by decide) (by decide)]; exact r7) (by rw [gR _ (by omega) (by omega), uR 14 (by decide) (by decide)]; exact c2) g16 u15 (by rw [uR 8 (by decide) (by decide)]; exact hO.2.1) h40 (by rw [gR _ (by omega) (by omega)]; exact r2.1) (by rw [uR 7 (by decide) (by decide), uR 3 (by decide) (by decide), l1, nI_clamp (by omega)]; exact hT0.dep_n l2)
  refine ⟨w, w1, rfl, rfl, w2, ?_⟩
  have eG : ∀ r : Nat, r ≠ 2 + b → r ≠ 2 + b + 16 → r ≠ 2 + b + 20 → g2 GA (2 + b) 7 w r = G r := fun r a1 a2 a3 => by rw [g2_ne _ _ _ a1, gR r a2 a3]
  have eK : ∀ j : Nat, j ≠ 7 → g2 GA (2 + b) 7 w (2 + b) j = G (2 + b) j := fun j a1 => by rw [g2_k _ _ _ a1, gR _ (by omega) (by omega)]
  have u : ∀ j : Nat, j ≠ 15 → j ≠ 16 → j ≠ 8 → g2 UA 8 b w j = U j := fun j a1 a2 a3 => by rw [g2_ne _ _ _ a3, uR j a1 a2]
  have u8 : g2 UA 8 b w 8 b = w := g2_at _ _ _ _
  have hT : sameT U (g2 UA 8 b w) := ⟨u _ (by decide) (by decide) (by decide), u _ (by decide) (by decide) (by decide), u _ (by decide) (by decide) (by decide), u _ (by decide) (by decide) (by decide), u _ (by decide) (by decide) (by decide)⟩
  refine Inv_oneK (c := b) (Nat.le_refl k) hI.1 hI ?_ ?_ (fun c' hc hcb => ⟨eG _ (by omega) (by omega) (by omega), eG _ (by omega) (by omega) (by omega), eG _ (by omega) (by omega) (by omega), eG _ (by omega) (by omega) (by omega), eG _ (by omega) (by omega) (by omega), eG _ (by omega) (by omega) (by omega)⟩) (fun r hr => eG r (by omega) (by omega) (by omega)) hT (fun j _ => by rw [u 0 (by decide) (by decide) (by decide)]) (fun j c' hcb a1 a2 => ?_) (fun c' _ => by rw [u 17 (by decide) (by decide) (by decide)]) (fun c' m hcb hm => ⟨by rw [u 14 (by decide) (by decide) (by decide)], by rw [g2_ne _ _ _ (by decide), uC 15 c' m hcb hm], by rw [g2_ne _ _ _ (by decide), uC 16 c' m hcb hm]⟩) (fun j a1 a2 => u j (by omega) (by omega) (by omega)) (fun _ => ?_) (fun _ => ?_) (fun _ => ?_) (fun _ => ?_) (fun c' hc _ hcb e ne => ?_) (fun i hi hf hM => ?_)
  · unfold RS
    rw [eG 0 (by omega) (by omega) (by omega), eG 26 (by omega) (by omega) (by omega), eG 27 (by omega) (by omega) (by omega), u 0 (by decide) (by decide) (by decide), u 1 (by decide) (by decide) (by decide)]
    exact ⟨s0, s1, s2, s3, s4, s5, s6, s7⟩
  · rw [u 1 (by decide) (by decide) (by decide)]
    exact hI.2.2.2.2.2.1
  · by_cases z : j = 8
    · subst z
      rw [g2_k _ _ _ hcb, uR 8 (by decide) (by decide)]
    · rw [u j (by omega) (by omega) z]
  · unfold RB
    rw [eK 0 (by decide), eK 4 (by decide), eK 5 (by decide), eK 6 (by decide), g2_at, eK 8 (by decide), eK 9 (by decide), u8, u 9 (by decide) (by decide) (by decide), u 10 (by decide) (by decide) (by decide), u 11 (by decide) (by decide) (by decide), u 12 (by decide) (by decide) (by decide), u 13 (by decide) (by decide) (by decide)]
    exact ⟨r0, r4, r5, r6, rfl, r8, r9⟩
  · exact RL_fr hT (by rw [u 7 (by decide) (by decide) (by decide)]) (by rw [eG _ (by omega) (by omega) (by omega)]) (eG _ (by omega) (by omega) (by omega)) (eG _ (by omega) (by omega) (by omega)) r2
  · intro _
    rw [eK 10 (by decide), eK 11 (by decide), u 17 (by decide) (by decide) (by decide), u 14 (by decide) (by decide) (by decide)]
    refine ⟨c1, c2, fun m hm => ?_, fun m hm => ?_⟩
    · rw [g2_ne _ _ _ (by omega), g2_ne _ _ _ (by decide)]
      exact g16 m hm
    · rw [g2_ne _ _ _ (by omega), g2_ne _ _ _ (by decide)]
      exact g20 m hm
  · obtain ⟨a1, a2, a3, a4, a5, a6, a7, a8, a9, a10, a11, a12, a13⟩ := hO
    unfold okB onPath
    rw [lastN_fr (U := U) (by rw [u 7 (by decide) (by decide) (by decide)]), recN_fr (U := U) (by rw [u 0 (by decide) (by decide) (by decide)]), hT.e_dep, hT.e_epo, hT.e_nodeAt, u8, u 0 (by decide) (by decide) (by decide), u 7 (by decide) (by decide) (by decide), u 9 (by decide) (by decide) (by decide), u 10 (by decide) (by decide) (by decide), u 11 (by decide) (by decide) (by decide), u 12 (by decide) (by decide) (by decide), u 13 (by decide) (by decide) (by decide), u 14 (by decide) (by decide) (by decide), u 17 (by decide) (by decide) (by decide)]
    refine ⟨a1, hw, a3, a4, a5, a6, a7, a8, a9, a10, a11, fun z => ⟨(a12 z).1, (a12 z).2.1, fun m hm => ⟨?_, ((a12 z).2.2 m hm).2⟩⟩, a13⟩
    rw [g2_ne _ _ _ (by decide)]
    exact u15 m hm
  · rw [u 10 (by decide) (by decide) (by decide)] at e ne
    rw [u 11 (by decide) (by decide) (by decide)]
    exact hI.2.2.2.2.2.2.2.1 c' b hc hb e ne
  · exact okM_fr hT (by rw [u 0 (by decide) (by decide) (by decide)]) (by rw [u 0 (by decide) (by decide) (by decide)]) (fun j a1 a2 => by rw [u j (by omega) (by omega) (by omega)]) (fun j hj => by rw [u j (by omega) (by omega) (by omega)]) hM
end BAT
