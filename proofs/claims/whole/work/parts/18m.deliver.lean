section DEL
variable {k : Nat} {G U : Nat → Nat → Int32} {P : Nat → Nat} {b f a q : Nat} {e : Int32}
theorem answer_sim (hI : Inv k G P U) (hl : U 11 b = nI b) (hf : ftK G P U b f a q e) (hld : ¬ f_B_leads (2 + b) G = 0) (h5 : G (2 + b) 5 = G q 5) : Inv k (f_I_answer (2 + b) q G P) P (f_M_answer (nI b) (nI f) (nI a) e U) := by
  have hf0 := hf
  obtain ⟨hb, hf4, ha, hq, hqp, ⟨g3, g6, g7, g8⟩, h0, hnum, hlv⟩ := hf
  have h40 := inv_dep hI hb
  have hT := hI.2.2.2.1
  have hrec := inv_rec hI
  have hO := hI.2.2.2.2.2.2.1 b hb
  obtain ⟨l1, l2⟩ := hO.1
  have hd3 : U 3 (U 7 b).toNatClampNeg = nI (dep U (lastN U b)) := by rw [l1, nI_clamp (by omega), hT.dep_n l2]
  have hcon := cont_iff (G := G) hI hb ha h0
  unfold f_I_answer
  rw [if_neg hld, if_pos h5, g3, g7, g8, hI.2.1.1.2.2.2.1]
  by_cases hg : goesOn U b a e
  · rw [if_neg (fun z => hcon.mp z hg)]
    obtain ⟨had, hge⟩ := hg
    obtain ⟨v, c, w, eN, hv, hc, eR, hI1⟩ := note_sim hI hb hl hf4 ha
    rw [eN]
    have hxl := hT.at_le (d := a) l2
    have hxd := hT.at_dep l2 had
    -- the state behind the note
    have u : ∀ j : Nat, j ≠ 15 → j ≠ 16 → j ≠ 8 → g2 (g2 (g2 U 15 (4 * b + f) v) 16 (4 * b + f) c) 8 b w j = U j := fun j a1 a2 a3 => by rw [g2_ne _ _ _ a3, g2_ne _ _ _ a2, g2_ne _ _ _ a1]
    have gq : ∀ j : Nat, g2 (g2 (g2 G (2 + b + 16) f v) (2 + b + 20) f c) (2 + b) 7 w q j = G q j := fun j => by rw [g2_ne _ _ _ (by omega), g2_ne _ _ _ (by omega), g2_ne _ _ _ (by omega)]
    have eM : f_M_answer (nI b) (nI f) (nI a) e U = (fun U1 => if (if U1 3 (U1 7 b).toNatClampNeg ≤ nI a + U1 0 1 then U1 3 (U1 7 b).toNatClampNeg else nI a + U1 0 1) = (if U1 3 (U1 7 b).toNatClampNeg ≤ nI a + U1 0 1 then U1 3 (U1 7 b).toNatClampNeg else nI a + U1 0 1) then (if (f_M_send 2 (nI b) (nI f) (U1 10 b) (U1 26 4) ((if U1 3 (U1 7 b).toNatClampNeg ≤ nI a + U1 0 1 then U1 3 (U1 7 b).toNatClampNeg else nI a + U1 0 1) - nI a) (U1 8 b) U1).1 = 0 then (f_M_send 2 (nI b) (nI f) (U1 10 b) (U1 26 4) ((if U1 3 (U1 7 b).toNatClampNeg ≤ nI a + U1 0 1 then U1 3 (U1 7 b).toNatClampNeg else nI a + U1 0 1) - nI a) (U1 8 b) U1).2 else g2 (f_M_send 2 (nI b) (nI f) (U1 10 b) (U1 26 4) ((if U1 3 (U1 7 b).toNatClampNeg ≤ nI a + U1 0 1 then U1 3 (U1 7 b).toNatClampNeg else nI a + U1 0 1) - nI a) (U1 8 b) U1).2 25 ((f_M_send 2 (nI b) (nI f) (U1 10 b) (U1 26 4) ((if U1 3 (U1 7 b).toNatClampNeg ≤ nI a + U1 0 1 then U1 3 (U1 7 b).toNatClampNeg else nI a + U1 0 1) - nI a) (U1 8 b) U1).2 0 24 - 1).toNatClampNeg (f_M_upTo (nI b) (if U1 3 (U1 7 b).toNatClampNeg ≤ nI a + U1 0 1 then U1 3 (U1 7 b).toNatClampNeg else nI a + U1 0 1) (f_M_send 2 (nI b) (nI f) (U1 10 b) (U1 26 4) ((if U1 3 (U1 7 b).toNatClampNeg ≤ nI a + U1 0 1 then U1 3 (U1 7 b).toNatClampNeg else nI a + U1 0 1) - nI a) (U1 8 b) U1).2)) else U1) (g2 (g2 (g2 U 15 (4 * b + f) v) 16 (4 * b + f) c) 8 b w) := by
      rw [← eR]
      unfold f_M_answer
      simp only [jn, if_true]
      rw [cl4 hb, at4 hb hf4, hd3, if_pos (nI_le had (by omega)), upTo_n hI hb had, nI_clamp (by omega), hT.dep_n (by omega), hxd, if_pos rfl, if_pos hge]
      have z2 : (nI (nodeAt U (lastN U b) a) = U 7 b) ↔ a = dep U (lastN U b) := by
        rw [l1, nI_eq (by omega) (by omega)]
        constructor
        · intro z
          rw [← hxd, z]
        · intro z
          rw [z, nodeAt_self]
      by_cases y1 : nI a ≤ U 15 (4 * b + f)
      · rw [if_pos y1] at hv
        rw [if_pos y1, ← hv]
        by_cases y2 : a = dep U (lastN U b)
        · rw [if_pos y2] at hc
          rw [if_pos (z2.mpr y2), ← hc]
          split <;> rfl
        · rw [if_neg y2] at hc
          rw [if_neg (fun z => y2 (z2.mp z)), ← hc]
          split <;> rfl
      · rw [if_neg y1] at hv
        rw [if_neg y1, ← hv]
        by_cases y2 : a = dep U (lastN U b)
        · rw [if_pos y2] at hc
          rw [if_pos (z2.mpr y2), ← hc]
          split <;> rfl
        · rw [if_neg y2] at hc
          rw [if_neg (fun z => y2 (z2.mp z)), ← hc]
          split <;> rfl
    rw [eM]
    generalize g2 (g2 (g2 G (2 + b + 16) f v) (2 + b + 20) f c) (2 + b) 7 w = G1 at hI1 gq
    generalize g2 (g2 (g2 U 15 (4 * b + f) v) 16 (4 * b + f) c) 8 b w = U1 at hI1 u
    have hT2 : sameT U U1 := ⟨u 2 (by decide) (by decide) (by decide), u 3 (by decide) (by decide) (by decide), u 4 (by decide) (by decide) (by decide), u 5 (by decide) (by decide) (by decide), u 6 (by decide) (by decide) (by decide)⟩
    have hla : ∀ x : Nat, lastN U1 x = lastN U x := fun x => lastN_fr (by rw [u 7 (by decide) (by decide) (by decide)])
    have hft : ftK G1 P U1 b f a q e := by
      unfold ftK
      rw [gq, gq, gq, gq, u 26 (by decide) (by decide) (by decide), u 12 (by decide) (by decide) (by decide), u 13 (by decide) (by decide) (by decide), u 10 (by decide) (by decide) (by decide), hla f, u 3 (by decide) (by decide) (by decide), u 4 (by decide) (by decide) (by decide)]
      exact hf0
    have hgo : goesOn U1 b a e := by
      unfold goesOn
      rw [hla b, hT2.e_dep, hT2.e_nodeAt, u 4 (by decide) (by decide) (by decide)]
      exact ⟨had, hge⟩
    obtain ⟨d, sz, S, _, t1, t2, t3, hfin⟩ := batch_sim hI1 (by rw [u 11 (by decide) (by decide) (by decide)]; exact hl) hft hgo
    show Inv k (f_I_sendBatch (2 + b) q G1 P) P (if _ = _ then _ else _)
    rw [if_pos rfl, t1, t2, ← t3]
    exact hfin
  · rw [if_pos (hcon.mpr hg)]
    have hx := cutreply_sim hI hl hf0
    have eM : f_M_answer (nI b) (nI f) (nI a) e U = (f_M_send 1 (nI b) (nI f) (U 10 b) (U 26 4) (U 3 (f_M_underEpoch (nI b) e U).toNatClampNeg) (U 4 (f_M_underEpoch (nI b) e U).toNatClampNeg) U).2 := by
      unfold f_M_answer
      simp only [jn]
      rw [cl4 hb, hd3]
      by_cases had : a ≤ dep U (lastN U b)
      · have hxl := hT.at_le (d := a) l2
        have hxd := hT.at_dep l2 had
        rw [if_pos (nI_le had (by omega)), upTo_n hI hb had, nI_clamp (by omega), hT.dep_n (by omega), hxd, if_pos rfl, if_neg (fun z => hg ⟨had, z⟩)]
      · rw [if_neg (nI_ge (by omega) (by omega)), show (0 : Int32).toNatClampNeg = 0 by decide, hT.2.1.2.1, if_neg (fun z => nI_ne0 (show 0 < a by omega) (by omega) z.symm)]
    rw [eM]
    exact hx
end DEL
