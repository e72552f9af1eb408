/-! review. -/
theorem or_bit : ∀ a, a < 16 → ∀ m, m < 4 → ((nI a ||| ((1 : Int32) <<< (nI m &&& 31))) = nI (a ||| 2 ^ m)) ∧ (a ||| 2 ^ m) < 16 ∧ ∀ q, q < 4 → Nat.testBit (a ||| 2 ^ m) q = (decide (q = m) || Nat.testBit a q) := by decide +kernel
theorem one_bit : ∀ b, b < 4 → ((1 : Int32) <<< (nI b &&& 31)) = nI (2 ^ b) ∧ 2 ^ b < 16 ∧ ∀ q, q < 4 → Nat.testBit (2 ^ b) q = decide (q = b) := by decide +kernel
section REV
variable {k : Nat} {G U : Nat → Nat → Int32} {P : Nat → Nat} {b : Nat}
/-- a replica that stays in sync, or comes into it -/
def stB (U : Nat → Nat → Int32) (b m : Nat) : Prop := (U 0 3 - U 16 (4 * b + m)) ≤ U 0 0 ∧ (¬ U 14 (4 * b + m) = 0 ∨ (¬ U 15 (4 * b + m) < U 8 b ∧ ¬ U 15 (4 * b + m) < U 17 b))
def rvQ (U : Nat → Nat → Int32) (b m a : Nat) (V : Nat → Nat → Int32) : Prop := a < 16 ∧ (∀ q : Nat, q < m → V 14 (4 * b + q) = (if a.testBit q then 1 else 0) ∧ V 1 q = (if a.testBit q then 1 else 0)) ∧
  (∀ q : Nat, m ≤ q → q < 4 → V 14 (4 * b + q) = U 14 (4 * b + q) ∧ a.testBit q = decide (q = b)) ∧ (∀ j : Nat, j ≠ 1 → j ≠ 14 → V j = U j) ∧ ∀ q : Nat, (q < 4 * b ∨ 4 * b + 4 ≤ q) → V 14 q = U 14 q
theorem stC (hI : Inv k G P U) (hb : b < 4) (hl : U 11 b = nI b) {f m : Nat} {acc : Int32} (hm : m < 4) : f_B_replicasInSync_10 (2 + b) (U 0 3) (U 0 0) G (f + 1) acc (nI m) = (if (U 0 3 - U 16 (4 * b + m)) ≤ U 0 0 then (if U 14 (4 * b + m) = 0 then (if U 15 (4 * b + m) < U 8 b then f_B_replicasInSync_10 (2 + b) (U 0 3) (U 0 0) G f acc (nI (m + 1)) else if U 15 (4 * b + m) < U 17 b then f_B_replicasInSync_10 (2 + b) (U 0 3) (U 0 0) G f acc (nI (m + 1)) else f_B_replicasInSync_10 (2 + b) (U 0 3) (U 0 0) G f (acc ||| (1 <<< (nI m &&& 31))) (nI (m + 1))) else f_B_replicasInSync_10 (2 + b) (U 0 3) (U 0 0) G f (acc ||| (1 <<< (nI m &&& 31))) (nI (m + 1))) else f_B_replicasInSync_10 (2 + b) (U 0 3) (U 0 0) G f acc (nI (m + 1))) := by
  obtain ⟨⟨r0, r4, r5, r6, r7, r8, r9⟩, r2, r3⟩ := hI.2.1.2.1 b hb
  obtain ⟨c1, ⟨s, hs, es, hsb⟩, c3, c4⟩ := r3 hl
  rw [f_B_replicasInSync_10, if_neg (n4 hm)]
  unfold f_B_hasFetchedEnough
  simp only [jn]
  rw [nI_1, cl4 hm, c4 m hm, c3 m hm, es, cont_bit s hs m hm, r7, c1, show U 14 (4 * b + m) = if s.testBit m then 1 else 0 from hsb m hm]
  by_cases q1 : (U 0 3 - U 16 (4 * b + m)) ≤ U 0 0
  · rw [if_pos q1, if_pos q1, if_pos trivial]
    by_cases q2 : (if s.testBit m then (1 : Int32) else 0) = 0
    · rw [if_pos q2, if_pos q2]
      by_cases q3 : U 15 (4 * b + m) < U 8 b
      · rw [if_pos q3, if_pos q3, if_pos rfl]
      · rw [if_neg q3, if_neg q3]
        by_cases q4 : U 15 (4 * b + m) < U 17 b
        · rw [if_pos q4, if_pos q4, if_pos rfl]
        · rw [if_neg q4, if_neg q4, if_neg one_ne0]
    · rw [if_neg q2, if_neg q2]
  · rw [if_neg q1, if_neg q1, if_neg one_ne0]
theorem stM {V W : Nat → Nat → Int32} (hb : b < 4) (hV : ∀ j : Nat, j ≠ 1 → j ≠ 14 → V j = U j) {f m : Nat} (hm : m < 4) (h14 : V 14 (4 * b + m) = U 14 (4 * b + m)) : f_M_review_27 (nI b) W (f + 1) (nI m) V = (if m = b then f_M_review_27 (nI b) W f (nI (m + 1)) (g2 (g2 V 14 (4 * b + m) 1) 1 m 1) else if (U 0 3 - U 16 (4 * b + m)) ≤ U 0 0 then (if U 14 (4 * b + m) = 0 then (if U 15 (4 * b + m) < U 8 b then f_M_review_27 (nI b) W f (nI (m + 1)) (g2 (g2 V 14 (4 * b + m) 0) 1 m 0) else if U 15 (4 * b + m) < U 17 b then f_M_review_27 (nI b) W f (nI (m + 1)) (g2 (g2 V 14 (4 * b + m) 0) 1 m 0) else f_M_review_27 (nI b) W f (nI (m + 1)) (g2 (g2 V 14 (4 * b + m) 1) 1 m 1)) else f_M_review_27 (nI b) W f (nI (m + 1)) (g2 (g2 V 14 (4 * b + m) 1) 1 m 1)) else f_M_review_27 (nI b) W f (nI (m + 1)) (g2 (g2 V 14 (4 * b + m) 0) 1 m 0)) := by
  rw [f_M_review_27, if_neg (n4 hm)]
  simp only [jn]
  rw [nI_1, at4 hb hm, cl4 hm, cl4 hb, hV 0 (by decide) (by decide), hV 16 (by decide) (by decide), hV 15 (by decide) (by decide), hV 8 (by decide) (by decide), hV 17 (by decide) (by decide), h14]
  have hq : (U 0 0 < U 0 3 - U 16 (4 * b + m)) ↔ ¬ (U 0 3 - U 16 (4 * b + m)) ≤ U 0 0 := by rw [i_lt, i_le]; omega
  by_cases hmb : m = b
  · have e : nI m = nI b := by rw [hmb]
    rw [if_pos hmb, if_pos e, if_pos e]
    split <;> rfl
  · have e : ¬ nI m = nI b := fun q => hmb ((nI_eq (by omega) (by omega)).mp q)
    rw [if_neg hmb, if_neg e, if_neg e]
    by_cases q1 : (U 0 3 - U 16 (4 * b + m)) ≤ U 0 0
    · rw [if_pos q1, if_neg (fun z => hq.mp z q1), if_neg one_ne0]
    · rw [if_neg q1, if_pos (hq.mpr q1), if_pos trivial]
theorem rvQ_step {a m : Nat} {V : Nat → Nat → Int32} {t : Int32} {a' : Nat} (hb : b < 4) (hm : m < 4) (h : rvQ U b m a V) (ha : a' < 16) (ht : t = if a'.testBit m then 1 else 0) (hs : ∀ q : Nat, q < 4 → q ≠ m → a'.testBit q = a.testBit q) : rvQ U b (m + 1) a' (g2 (g2 V 14 (4 * b + m) t) 1 m t) := by
  obtain ⟨h1, h2, h3, h4, h5⟩ := h
  refine ⟨ha, fun q hq => ?_, fun q a1 a2 => ?_, fun j a1 a2 => ?_, fun q hq => ?_⟩
  · by_cases e : q = m
    · subst e
      rw [g2_ne _ _ _ (by decide), g2_at, g2_at]
      exact ⟨ht, ht⟩
    · rw [g2_ne _ _ _ (by decide), g2_k _ _ _ (by omega), g2_k _ _ _ e, g2_ne _ _ _ (by decide), hs q (by omega) e]
      exact h2 q (by omega)
  · rw [g2_ne _ _ _ (by decide), g2_k _ _ _ (by omega), hs q a2 (by omega)]
    exact h3 q (by omega) a2
  · rw [g2_ne _ _ _ a1, g2_ne _ _ _ a2]
    exact h4 j a1 a2
  · rw [g2_ne _ _ _ (by decide), g2_k _ _ _ (by omega)]
    exact h5 q hq
theorem rev_sim (hI : Inv k G P U) (hb : b < 4) (hl : U 11 b = nI b) : ∀ (f m a : Nat) (V : Nat → Nat → Int32), m + f = 5 → m ≤ 4 → rvQ U b m a V → ∃ (a' : Nat) (V' : Nat → Nat → Int32), rvQ U b 4 a' V' ∧ f_B_replicasInSync_10 (2 + b) (U 0 3) (U 0 0) G f (nI a) (nI m) = nI a' ∧ f_M_review_27 (nI b) U f (nI m) V = (f_M_bits 1 0 (f_M_rise (nI b) V'), f_M_rise (nI b) V') := by
  intro f
  induction f with
  | zero => intro m a V h1 h2; omega
  | succ f ih =>
    intro m a V h1 h2 hQ
    by_cases hm : m = 4
    · subst hm
      refine ⟨a, V, hQ, ?_, ?_⟩
      · rw [f_B_replicasInSync_10, if_pos (by decide)]
      · rw [f_M_review_27, if_pos (by decide)]
    · have hm4 : m < 4 := by omega
      obtain ⟨o1, o2, o3⟩ := or_bit a hQ.1 m hm4
      obtain ⟨g1, g2'⟩ := hQ.2.2.1 m (Nat.le_refl _) hm4
      rw [stC hI hb hl hm4, stM (U := U) hb hQ.2.2.2.1 hm4 g1]
      -- the set with m, and the set as it is
      have yes : rvQ U b (m + 1) (a ||| 2 ^ m) (g2 (g2 V 14 (4 * b + m) 1) 1 m 1) := rvQ_step hb hm4 hQ o2 (by rw [o3 m hm4]; simp) (fun q q1 q2 => by rw [o3 q q1]; simp [q2])
      have no : m ≠ b → rvQ U b (m + 1) a (g2 (g2 V 14 (4 * b + m) 0) 1 m 0) := fun hmb => rvQ_step hb hm4 hQ hQ.1 (by rw [g2']; simp [hmb]) (fun q _ _ => rfl)
      have own : m = b → rvQ U b (m + 1) a (g2 (g2 V 14 (4 * b + m) 1) 1 m 1) := fun hmb => rvQ_step hb hm4 hQ hQ.1 (by rw [g2']; simp [hmb]) (fun q _ _ => rfl)
      rw [o1]
      by_cases hmb : m = b
      · rw [if_pos hmb]
        by_cases q1 : (U 0 3 - U 16 (4 * b + m)) ≤ U 0 0
        · rw [if_pos q1]
          by_cases q2 : U 14 (4 * b + m) = 0
          · rw [if_pos q2]
            by_cases q3 : U 15 (4 * b + m) < U 8 b
            · rw [if_pos q3]; exact ih (m + 1) a _ (by omega) (by omega) (own hmb)
            · rw [if_neg q3]
              by_cases q4 : U 15 (4 * b + m) < U 17 b
              · rw [if_pos q4]; exact ih (m + 1) a _ (by omega) (by omega) (own hmb)
              · rw [if_neg q4]; exact ih (m + 1) _ _ (by omega) (by omega) yes
          · rw [if_neg q2]; exact ih (m + 1) _ _ (by omega) (by omega) yes
        · rw [if_neg q1]; exact ih (m + 1) a _ (by omega) (by omega) (own hmb)
      · rw [if_neg hmb]
        by_cases q1 : (U 0 3 - U 16 (4 * b + m)) ≤ U 0 0
        · rw [if_pos q1, if_pos q1]
          by_cases q2 : U 14 (4 * b + m) = 0
          · rw [if_pos q2, if_pos q2]
            by_cases q3 : U 15 (4 * b + m) < U 8 b
            · rw [if_pos q3, if_pos q3]; exact ih (m + 1) a _ (by omega) (by omega) (no hmb)
            · rw [if_neg q3, if_neg q3]
              by_cases q4 : U 15 (4 * b + m) < U 17 b
              · rw [if_pos q4, if_pos q4]; exact ih (m + 1) a _ (by omega) (by omega) (no hmb)
              · rw [if_neg q4, if_neg q4]; exact ih (m + 1) _ _ (by omega) (by omega) yes
          · rw [if_neg q2, if_neg q2]; exact ih (m + 1) _ _ (by omega) (by omega) yes
        · rw [if_neg q1, if_neg q1]; exact ih (m + 1) a _ (by omega) (by omega) (no hmb)
theorem sim_review : Sim_review := by
  intro k G P U x1 x2 hk hI
  by_cases h : f_M_leads x1 U = 0
  · have e1 : f_I_review x1 G = (-1, G) := by unfold f_I_review; rw [isLd_eq hI, if_pos h]
    have e2 : f_M_review x1 U = (-1, U) := by unfold f_M_review; rw [if_pos h]
    rw [e1, e2]
    exact ⟨rfl, Inv_same hk hI⟩
  obtain ⟨b, hb, rfl, h9, h11⟩ := isLd_b h
  obtain ⟨⟨r0, r4, r5, r6, r7, r8, r9⟩, r2, r3⟩ := hI.2.1.2.1 b hb
  obtain ⟨s0, s1, s2, s3, s4, s5, s6, s7⟩ := hI.2.1.1
  by_cases h3 : U 10 b = U 0 4
  · obtain ⟨p1, p2, p3⟩ := one_bit b hb
    have hQ0 : rvQ U b 0 (2 ^ b) U := ⟨p2, fun q hq => by omega, fun q _ hq => ⟨rfl, p3 q hq⟩, fun _ _ _ => rfl, fun _ _ => rfl⟩
    obtain ⟨a, V, ⟨qa, q14, _, qU, qC⟩, eC, eM⟩ := rev_sim hI hb h11 5 0 (2 ^ b) U rfl (by omega) hQ0
    rw [nI_0] at eC eM
    have eR : f_B_replicasInSync (2 + b) (G 0 6) (G 0 0) G = nI a := by
      unfold f_B_replicasInSync
      rw [s3, s0, r0, p1, eC]
    have e1 : f_I_review (nI b) G = ((f_B_raiseHw (2 + b) (g2 (g2 G 26 2 (nI a)) (2 + b) 11 (nI a))) 26 2, f_B_raiseHw (2 + b) (g2 (g2 G 26 2 (nI a)) (2 + b) 11 (nI a))) := by
      unfold f_I_review
      rw [isLd_eq hI, if_neg h, cl4 hb, r5, s4, if_pos h3, eR, g2_at]
    have e2 : f_M_review (nI b) U = (f_M_bits 1 0 (f_M_rise (nI b) V), f_M_rise (nI b) V) := by
      unfold f_M_review
      rw [if_neg h, cl4 hb, if_pos h3, eM]
    rw [e1, e2]
    have gR : ∀ r : Nat, r ≠ 26 → r ≠ 2 + b → g2 (g2 G 26 2 (nI a)) (2 + b) 11 (nI a) r = G r := fun r a1 a2 => by rw [g2_ne _ _ _ a2, g2_ne _ _ _ a1]
    have gK : ∀ j : Nat, j ≠ 11 → g2 (g2 G 26 2 (nI a)) (2 + b) 11 (nI a) (2 + b) j = G (2 + b) j := fun j a1 => by rw [g2_k _ _ _ a1, g2_ne _ _ _ (by omega)]
    have g11 : g2 (g2 G 26 2 (nI a)) (2 + b) 11 (nI a) (2 + b) 11 = nI a := g2_at _ _ _ _
    have g26 : g2 (g2 G 26 2 (nI a)) (2 + b) 11 (nI a) 26 2 = nI a := by rw [g2_ne _ _ _ (by omega), g2_at]
    have g26' : ∀ j : Nat, j ≠ 2 → g2 (g2 G 26 2 (nI a)) (2 + b) 11 (nI a) 26 j = G 26 j := fun j hj => by rw [g2_ne _ _ _ (by omega), g2_k _ _ _ hj]
    generalize g2 (g2 G 26 2 (nI a)) (2 + b) 11 (nI a) = G1 at gR gK g11 g26 g26' ⊢
    obtain ⟨c1, c2, c3, c4⟩ := r3 h11
    have hO := hI.2.2.2.2.2.2.1 b hb
    obtain ⟨o1, o2, o3⟩ := hO.2.2.2.2.2.2.2.2.2.2.2.1 h11
    have hT0 := hI.2.2.2.1
    have h40 := inv_dep hI hb
    have hrec := inv_rec hI
    have hset : isSet (nI a) (fun m => V 14 (4 * b + m)) := ⟨a, qa, rfl, fun m hm => (q14 m hm).1⟩
    obtain ⟨w, hw, w1, w2⟩ := raise_sim (G := G1) (V := V) (n := 2 + b) (b := b) (d := dep U (lastN U b)) (by rw [gK 0 (by decide)]; exact r0) hb (by rw [gK 7 (by decide), qU 8 (by decide) (by decide)]; exact r7) (by rw [g11]; exact hset) (fun m hm => by rw [gR _ (by omega) (by omega), qU 15 (by decide) (by decide)]; exact c3 m hm) (fun m hm => by rw [qU 15 (by decide) (by decide)]; exact (o3 m hm).1) (by rw [qU 8 (by decide) (by decide)]; exact hO.2.1) h40 (by rw [gR _ (by omega) (by omega)]; exact r2.1) (by rw [qU 7 (by decide) (by decide), qU 3 (by decide) (by decide), hO.1.1, nI_clamp (by have := hO.1.2; omega)]; exact hT0.dep_n hO.1.2)
    rw [w1, w2]
    have u : ∀ j : Nat, j ≠ 1 → j ≠ 14 → j ≠ 8 → g2 V 8 b w j = U j := fun j a1 a2 a3 => by rw [g2_ne _ _ _ a3, qU j a1 a2]
    have u1 : isSet (nI a) (g2 V 8 b w 1) := ⟨a, qa, rfl, fun m hm => by rw [g2_ne _ _ _ (by decide)]; exact (q14 m hm).2⟩
    refine ⟨?_, ?_⟩
    · show g2 G1 (2 + b) 7 w 26 2 = f_M_bits 1 0 (g2 V 8 b w)
      rw [bits_isr u1, g2_ne _ _ _ (by omega), g26]
    · show Inv (k + 1) (g2 G1 (2 + b) 7 w) P (g2 V 8 b w)
      have eG : ∀ r : Nat, r ≠ 26 → r ≠ 2 + b → g2 G1 (2 + b) 7 w r = G r := fun r a1 a2 => by rw [g2_ne _ _ _ a2, gR r a1 a2]
      have eK : ∀ j : Nat, j ≠ 11 → j ≠ 7 → g2 G1 (2 + b) 7 w (2 + b) j = G (2 + b) j := fun j a1 a2 => by rw [g2_k _ _ _ a2, gK j a1]
      have u8 : g2 V 8 b w 8 b = w := g2_at _ _ _ _
      have uz : ∀ m : Nat, m < 4 → g2 V 8 b w 14 (4 * b + m) = if a.testBit m then 1 else 0 := fun m hm => by rw [g2_ne _ _ _ (by decide)]; exact (q14 m hm).1
      have zbit : ∀ m : Nat, zb (if a.testBit m then (1 : Int32) else 0) := fun m => by
        split
        · exact Or.inr rfl
        · exact Or.inl rfl
      have hT : sameT U (g2 V 8 b w) := ⟨u _ (by decide) (by decide) (by decide), u _ (by decide) (by decide) (by decide), u _ (by decide) (by decide) (by decide), u _ (by decide) (by decide) (by decide), u _ (by decide) (by decide) (by decide)⟩
      refine Inv_one (c := b) hk hI ?_ ?_ (fun c hc hcb => ⟨eG _ (by omega) (by omega), eG _ (by omega) (by omega), eG _ (by omega) (by omega), eG _ (by omega) (by omega), eG _ (by omega) (by omega), eG _ (by omega) (by omega)⟩) (fun r hr => eG r (by omega) (by omega)) hT (fun j _ => by rw [u 0 (by decide) (by decide) (by decide)]) (fun j c hcb a1 a2 => ?_) (fun c _ => by rw [u 17 (by decide) (by decide) (by decide)]) (fun c m hcb hm => ⟨?_, by rw [u 15 (by decide) (by decide) (by decide)], by rw [u 16 (by decide) (by decide) (by decide)]⟩) (fun j a1 a2 => u j (by omega) (by omega) (by omega)) (fun _ => ?_) (fun _ => ?_) (fun _ => ?_) (fun _ => ?_) (fun c hc _ hcb e ne => ?_) (fun i hi hf hM => ?_)
      · unfold RS
        rw [eG 0 (by omega) (by omega), eG 27 (by omega) (by omega), show g2 G1 (2 + b) 7 w 26 = G1 26 from g2_ne _ _ _ (by omega), g26' 0 (by decide), g26' 1 (by decide), g26, u 0 (by decide) (by decide) (by decide)]
        exact ⟨s0, s1, s2, s3, s4, s5, s6, u1⟩
      · intro j hj
        rw [g2_ne _ _ _ (by decide), (q14 j hj).2]
        exact zbit j
      · by_cases e : j = 8
        · subst e
          rw [g2_k _ _ _ hcb, qU 8 (by decide) (by decide)]
        · rw [u j (by omega) (by omega) e]
      · rw [g2_ne _ _ _ (by decide), qC _ (by omega)]
      · unfold RB
        rw [eK 0 (by decide) (by decide), eK 4 (by decide) (by decide), eK 5 (by decide) (by decide), eK 6 (by decide) (by decide), g2_at, eK 8 (by decide) (by decide), eK 9 (by decide) (by decide), u8, u 9 (by decide) (by decide) (by decide), u 10 (by decide) (by decide) (by decide), u 11 (by decide) (by decide) (by decide), u 12 (by decide) (by decide) (by decide), u 13 (by decide) (by decide) (by decide)]
        exact ⟨r0, r4, r5, r6, rfl, r8, r9⟩
      · exact RL_fr hT (by rw [u 7 (by decide) (by decide) (by decide)]) (by rw [eG _ (by omega) (by omega)]) (eG _ (by omega) (by omega)) (eG _ (by omega) (by omega)) r2
      · intro _
        rw [eK 10 (by decide) (by decide), g2_k _ _ _ (by decide), g11, eG (2 + b + 16) (by omega) (by omega), eG (2 + b + 20) (by omega) (by omega), u 17 (by decide) (by decide) (by decide), u 15 (by decide) (by decide) (by decide), u 16 (by decide) (by decide) (by decide)]
        exact ⟨c1, ⟨a, qa, rfl, fun m hm => uz m hm⟩, c3, c4⟩
      · obtain ⟨a1, a2, a3, a4, a5, a6, a7, a8, a9, a10, a11, a12, a13⟩ := hO
        unfold okB onPath
        rw [lastN_fr (U := U) (by rw [u 7 (by decide) (by decide) (by decide)]), recN_fr (U := U) (by rw [u 0 (by decide) (by decide) (by decide)]), hT.e_dep, hT.e_epo, hT.e_nodeAt, u8, u 0 (by decide) (by decide) (by decide), u 7 (by decide) (by decide) (by decide), u 9 (by decide) (by decide) (by decide), u 10 (by decide) (by decide) (by decide), u 11 (by decide) (by decide) (by decide), u 12 (by decide) (by decide) (by decide), u 13 (by decide) (by decide) (by decide), u 15 (by decide) (by decide) (by decide), u 17 (by decide) (by decide) (by decide)]
        refine ⟨a1, hw, a3, a4, ⟨a5.1, by omega⟩, a6, a7, a8, a9, a10, a11, fun q => ⟨(a12 q).1, (a12 q).2.1, fun m hm => ⟨((a12 q).2.2 m hm).1, ?_⟩⟩, a13⟩
        rw [uz m hm]
        exact zbit m
      · rw [u 10 (by decide) (by decide) (by decide)] at e ne
        rw [u 11 (by decide) (by decide) (by decide)]
        exact hI.2.2.2.2.2.2.2.1 c b hc hb e ne
      · exact okM_fr hT (by rw [u 0 (by decide) (by decide) (by decide)]) (by rw [u 0 (by decide) (by decide) (by decide)]) (fun j a1 a2 => by rw [u j (by omega) (by omega) (by omega)]) (fun j hj => by rw [u j (by omega) (by omega) (by omega)]) hM
  · have e1 : f_I_review (nI b) G = (-1, G) := by
      unfold f_I_review
      rw [isLd_eq hI, if_neg h, cl4 hb, r5, s4, if_neg h3]
    have e2 : f_M_review (nI b) U = (-1, U) := by
      unfold f_M_review
      rw [if_neg h, cl4 hb, if_neg h3]
    rw [e1, e2]
    exact ⟨rfl, Inv_same hk hI⟩
end REV
