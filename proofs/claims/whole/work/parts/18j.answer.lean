/-! A FETCH is answered. -/
section ANS
variable {k : Nat} {G U : Nat → Nat → Int32} {P : Nat → Nat} {b f a q : Nat} {e : Int32}
/-- what is known of the FETCH in row 26, and of its object q -/
def ftK (G : Nat → Nat → Int32) (P : Nat → Nat) (U : Nat → Nat → Int32) (b f a q : Nat) (e : Int32) : Prop :=
  b < 4 ∧ f < 4 ∧ a ≤ 40 ∧ (29 ≤ q ∧ q < 38) ∧ (∀ j : Nat, j < 8 → 29 + P j ≠ q) ∧ (G q 3 = nI f ∧ G q 6 = U 26 4 ∧ G q 7 = nI a ∧ G q 8 = e) ∧ (a = 0 → e = 0) ∧ (0 ≤ (U 26 4).toInt ∧ (U 26 4).toInt ≤ (U 12 f).toInt) ∧ (U 13 f = 1 → U 12 f = U 26 4 → U 10 f = U 10 b → U 3 (lastN U f) = nI a ∧ U 4 (lastN U f) = e)
/-- the log goes on where the follower's ends -/
def goesOn (U : Nat → Nat → Int32) (b a : Nat) (e : Int32) : Prop := a ≤ dep U (lastN U b) ∧ U 4 (nodeAt U (lastN U b) a) = e
theorem cont_iff (hI : Inv k G P U) (hb : b < 4) (ha : a ≤ 40) (h0 : a = 0 → e = 0) : (f_L_continues (2 + b + 4) (nI a) e G = 0) ↔ ¬ goesOn U b a e := by
  have h40 := inv_dep hI hb
  have hT := hI.2.2.2.1
  have l2 := (hI.2.2.2.2.2.2.1 b hb).1.2
  unfold f_L_continues goesOn
  rw [(hI.2.1.2.1 b hb).2.1.1]
  by_cases z : a = 0
  · subst z
    rw [if_pos nI_0, h0 rfl, hT.at_0 l2, hT.2.1.2.2.1]
    exact ⟨fun q => absurd q one_ne0, fun q => absurd ⟨Nat.zero_le _, rfl⟩ q⟩
  · rw [if_neg (nI_ne0 (by omega) (by omega))]
    by_cases z2 : a ≤ dep U (lastN U b)
    · rw [if_neg (nI_nlt z2 (by omega)), epochOf_d hI hb z2]
      by_cases z3 : U 4 (nodeAt U (lastN U b) a) = e
      · rw [if_pos z3]
        exact ⟨fun q => absurd q one_ne0, fun q => absurd ⟨z2, z3⟩ q⟩
      · rw [if_neg z3]
        exact ⟨fun _ q => z3 q.2, fun _ => rfl⟩
    · rw [if_pos (nI_lt (by omega) (by omega))]
      exact ⟨fun _ q => z2 q.1, fun _ => rfl⟩
/-- a message that isn't lost, or is, on both sides -/
theorem cutreply_sim (hI : Inv k G P U) (hl : U 11 b = nI b) (hf : ftK G P U b f a q e) : Inv k (f_I_sendCut (2 + b) q G P) P (f_M_send 1 (nI b) (nI f) (U 10 b) (U 26 4) (U 3 (f_M_underEpoch (nI b) e U).toNatClampNeg) (U 4 (f_M_underEpoch (nI b) e U).toNatClampNeg) U).2 := by
  obtain ⟨hb, hf4, ha, hq, hqp, ⟨g3, g6, g7, g8⟩, h0, hnum, _⟩ := hf
  have h40 := inv_dep hI hb
  have hT := hI.2.2.2.1
  have hrec := inv_rec hI
  have hO := hI.2.2.2.2.2.2.1 b hb
  have l2 := hO.1.2
  obtain ⟨⟨r0, r4, r5, r6, r7, r8, r9⟩, r2, r3⟩ := hI.2.1.2.1 b hb
  obtain ⟨n, ⟨c1, c2, c3⟩, e1, e2⟩ := count_eq hI hb (e := e)
  have hle := hT.at_le (d := n) l2
  have hdn := hT.at_dep l2 c1
  unfold f_I_sendCut
  rw [g3, g6, g8, e1, epochOf_d hI hb c1, e2, nI_clamp (by omega), hT.dep_n (by omega), hdn]
  obtain ⟨m, hm8, hm, hmm⟩ := cnt_n hI
  have h27 : G 27 1 = nI m := by rw [hI.2.1.1.2.2.2.2.2.2.1]; exact hm
  by_cases hfull : m = 8
  · subst hfull
    rw [sendC8 h27, sendM8 hm]
    exact hI
  · obtain ⟨G2, eC, c1', c2', c3', c4, c5, c6, c7, c8, c9⟩ := sendC (P := P) (x1 := 1) (x3 := nI f) (x4 := U 26 4) (x5 := nI n) (x6 := U 4 (nodeAt U (lastN U b) n)) h27 (by omega) (show 2 + b < 27 by omega)
    obtain ⟨U2, eM, m1, m2, m3, m4, w0, w1, w2, w3, w4, w5, w6, w7⟩ := sendM (x1 := 1) (x2 := nI b) (x3 := nI f) (x4 := U 10 b) (x5 := U 26 4) (x6 := nI n) (x7 := U 4 (nodeAt U (lastN U b) n)) hm (by omega)
    rw [eC, eM]
    show Inv k G2 P U2
    have hep := hT.epo_nn (show nodeAt U (lastN U b) n ≤ recN U by omega)
    have hne : ¬ (-1 : Int32) = nI b := fun z => by
      have := congrArg Int32.toInt z
      rw [im1, nI_toInt (by omega)] at this
      omega
    have hk0 : ¬ U 10 b = 0 := fun z => hne ((hO.2.2.2.2.2.2.2.1 z).symm.trans hl)
    have hk1 := lv_neT hk0 (a := 0) (by decide)
    have hfo : folN U2 m = f := by unfold folN; rw [w0, if_neg (by decide), w2, cl4 hf4]
    have hr2 : recN U2 = recN U := by unfold recN; rw [m2 7 (by decide)]
    have n12 : ¬ (1 : Int32) = 2 := by decide
    refine send_inv hI hm (by omega) rfl (fun r a1 a2 _ _ => c1' r a1 a2) c2' ⟨by rw [c5]; exact vp_in_nI hf4 (by decide), by rw [c4, r0]; exact vp_in_nI hb (by decide)⟩ (fun j a1 a2 => m1 j a1 (by omega)) m2 m3 m4 ⟨fun w hw => ?_, fun z => ?_⟩ ⟨Or.inr (Or.inl w0), by rw [w1]; exact vp_in_nI hb (by decide), by rw [w2]; exact vp_in_nI hf4 (by decide), ?_, ?_, ?_, ?_, fun z => ?_, ?_, fun z => ?_, fun z => ?_⟩ ⟨by rw [w2]; exact vp_in_nI hf4 (by decide), by rw [w1]; exact vp_in_nI hb (by decide), ?_, by rw [w7]; exact in0_520⟩
    · rcases (show w = 0 ∨ w = 1 ∨ w = 2 ∨ w = 3 ∨ w = 4 ∨ w = 5 ∨ w = 6 by omega) with z | z | z | z | z | z | z <;> subst z
      · rw [c3', w0]
      · rw [c4, w1, r0]
      · rw [c5, w2]
      · rw [c6, w3, r5]
      · rw [c7, w4]
      · rw [c8, w5]
      · rw [c9, w6]
    · rw [w0] at z
      exact absurd z n12
    · rw [w3, m2 4 (by decide)]
      have := hO.2.2.2.2.2.1
      omega
    · rw [hfo, w4, m1 12 (by decide) (by decide)]
      exact hnum
    · rw [w5, nI_toInt (by omega)]
      omega
    · rw [w6]
      exact hep
    · rw [w0] at z
      exact absurd z n12
    · rw [w7, hr2]
      exact ⟨by decide, by rw [show (0 : Int32).toNatClampNeg = 0 by decide]; omega⟩
    · rw [w0] at z
      exact absurd z (by decide)
    · rw [w0] at z
      exact absurd z n12
    · rw [w5, nI_toInt (by omega)]
      omega
end ANS
