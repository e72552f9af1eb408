/-! deliver: the message is copied and taken out. -/
section DLV
variable {k : Nat} {G U V : Nat → Nat → Int32} {P : Nat → Nat} {i n : Nat}
/-- what a reply does -/
def dT (W : Nat → Nat → Int32) (b : Int32) : Int32 × (Nat → Nat → Int32) := if W 26 0 ≤ 0 then (1, W) else if W 9 b.toNatClampNeg = 0 then (1, W) else if W 10 b.toNatClampNeg = W 26 3 then (if f_M_leads b W = 0 then (if W 13 b.toNatClampNeg = 0 then (1, W) else if W 12 b.toNatClampNeg = W 26 4 then (if W 26 0 = 1 then (1, f_M_cut b (g2 W 13 b.toNatClampNeg 0)) else (1, f_M_extend b (g2 W 13 b.toNatClampNeg 0))) else (1, W)) else (1, W)) else (1, W)
/-- what a message does -/
def dE (V : Nat → Nat → Int32) : Int32 × (Nat → Nat → Int32) := if V 26 0 = 0 then (if f_M_leads (V 26 2) V = 0 then dT V (V 26 2) else if V 10 (V 26 2).toNatClampNeg = V 26 3 then dT (f_M_answer (V 26 2) (V 26 1) (V 26 5) (V 26 6) V) (V 26 2) else dT V (V 26 2)) else dT V (V 26 2)
theorem dl_end {x1 : Int32} {f : Nat} : f_M_deliver_12 x1 U (f + 1) 7 V = dE (f_M_remove x1 (g2 V 26 7 (V 25 x1.toNatClampNeg))) := by
  rw [f_M_deliver_12, if_pos (by decide)]
  simp only [jn, if_true, if_neg one_ne0]
  rfl
theorem dl_loop : ∀ (f w : Nat) (V : Nat → Nat → Int32), w + f = 8 → w ≤ 7 → dv (nI i) U (nI w) V → ∃ V' : Nat → Nat → Int32, dv (nI i) U 7 V' ∧ f_M_deliver_12 (nI i) U f (nI w) V = dE (f_M_remove (nI i) (g2 V' 26 7 (V' 25 (nI i).toNatClampNeg))) := by
  intro f
  induction f with
  | zero => intro w V h1 h2; omega
  | succ f ih =>
    intro w V h1 h2 hV
    by_cases hw : w = 7
    · subst hw
      rw [show nI 7 = (7 : Int32) by decide] at hV ⊢
      exact ⟨V, hV, dl_end⟩
    · have h7 : ¬ (7 : Int32) ≤ nI w := by
        rw [show (7 : Int32) = nI 7 by decide]
        exact nI_ge (by omega) (by omega)
      rw [f_M_deliver_12, if_neg h7]
      have hs := dv_step (vp_in_nI (show w < 7 by omega) (by decide)) hV
      rw [nI_1] at hs ⊢
      exact ih (w + 1) _ (by omega) (by omega) hs
/-- the reference's deliver, with the state behind the taking out -/
theorem dl_M (hI : Inv k G P U) (hn : U 0 24 = nI n) (hn8 : n ≤ 8) (hi : i < n) (hm : ¬ f_M_isMessage (nI i) U = 0) : ∃ V : Nat → Nat → Int32, f_M_deliver (nI i) U = dE V ∧ (∀ j : Nat, j ≠ 0 → j < 18 → V j = U j) ∧ (∀ j : Nat, j ≠ 24 → V 0 j = U 0 j) ∧ V 0 24 = nI (n - 1) ∧ (∀ j q : Nat, 18 ≤ j → j ≤ 25 → V j q = if i ≤ q ∧ q + 1 < n then U j (q + 1) else U j q) ∧ (∀ w : Nat, w < 7 → V 26 w = U (18 + w) i) ∧ V 26 7 = U 25 i := by
  obtain ⟨W, hW, eW⟩ := dl_loop (i := i) (U := U) 8 0 U rfl (by omega) (by rw [nI_0]; exact dv_init)
  rw [nI_0] at eW
  obtain ⟨w1, w2⟩ := hW
  have hci : (nI i).toNatClampNeg = i := nI_clamp (by omega)
  obtain ⟨m1, m2, m3, m4⟩ := remove_eq (U := g2 W 26 7 (W 25 (nI i).toNatClampNeg)) (n := n) (i := i) (by rw [g2_ne _ _ _ (by decide), w1 0 (by decide)]; exact hn) hn8 hi
  refine ⟨f_M_remove (nI i) (g2 W 26 7 (W 25 (nI i).toNatClampNeg)), ?_, fun j a1 a2 => ?_, fun j a1 => ?_, m3, fun j q a1 a2 => ?_, fun w hw => ?_, ?_⟩
  · unfold f_M_deliver
    rw [if_neg hm, eW]
  · rw [m1 j a1 (by omega), g2_ne _ _ _ (by omega), w1 j (by omega)]
  · rw [m2 j a1, g2_ne _ _ _ (by decide), w1 0 (by decide)]
  · rw [m4 j q a1 a2, g2_ne _ _ _ (by omega), w1 j (by omega)]
  · rw [m1 26 (by decide) (by omega), g2_k _ _ _ (by omega), w2 w (by rw [show (7 : Int32).toInt = 7 by decide]; omega)]
    unfold f_M_message
    rw [if_neg hm, hci]
    rcases (show w = 0 ∨ w = 1 ∨ w = 2 ∨ w = 3 ∨ w = 4 ∨ w = 5 ∨ w = 6 by omega) with e | e | e | e | e | e | e <;> subst e <;> simp [show nI 0 = (0 : Int32) by decide, show nI 1 = (1 : Int32) by decide, show nI 2 = (2 : Int32) by decide, show nI 3 = (3 : Int32) by decide, show nI 4 = (4 : Int32) by decide, show nI 5 = (5 : Int32) by decide, show nI 6 = (6 : Int32) by decide]
  · rw [m1 26 (by decide) (by omega), g2_at, w1 25 (by decide), hci]
end DLV
