/-! HW rises alike on both sides; sizes of sets. -/
theorem cont_bit : ∀ k, k < 16 → ∀ m, m < 4 → f_I_contains (nI k) (nI m) = if Nat.testBit k m then 1 else 0 := by decide +kernel
section RAISE
variable {G V : Nat → Nat → Int32} {n b : Nat}
def rstep (V : Nat → Nat → Int32) (b m : Nat) (acc : Int32) : Int32 := if m = b then acc else if V 14 (4 * b + m) = 0 then acc else if V 15 (4 * b + m) < acc then V 15 (4 * b + m) else acc
theorem n4 {m : Nat} (h : m < 4) : ¬ (4 : Int32) ≤ nI m := by
  rw [show (4 : Int32) = nI 4 by decide]
  exact nI_ge (by omega) (by omega)
theorem raiseC (h0 : G n 0 = nI b) (hb : b < 4) (hs : isSet (G n 11) (fun m => V 14 (4 * b + m))) (hf : ∀ m : Nat, m < 4 → G (n + 16) m = V 15 (4 * b + m)) {f m : Nat} {acc : Int32} (hm : m < 4) : f_B_raiseHw_10 n G (f + 1) acc (nI m) = f_B_raiseHw_10 n G f (rstep V b m acc) (nI (m + 1)) := by
  obtain ⟨k, hk, e, h⟩ := hs
  rw [f_B_raiseHw_10, if_neg (n4 hm)]
  simp only [jn]
  rw [nI_1, h0, e, cl4 hm, hf m hm, cont_bit k hk m hm]
  unfold rstep
  rw [show V 14 (4 * b + m) = if k.testBit m then 1 else 0 from h m hm]
  by_cases hmb : m = b
  · rw [if_pos (by rw [hmb]), if_pos hmb]
  · rw [if_neg (fun q => hmb ((nI_eq (by omega) (by omega)).mp q)), if_neg hmb]
    by_cases hz : (if k.testBit m then (1 : Int32) else 0) = 0
    · rw [if_pos hz, if_pos hz]
    · rw [if_neg hz, if_neg hz]
theorem raiseM (hb : b < 4) {f m : Nat} {acc : Int32} (hm : m < 4) : f_M_rise_14 (nI b) V (f + 1) acc (nI m) = f_M_rise_14 (nI b) V f (rstep V b m acc) (nI (m + 1)) := by
  rw [f_M_rise_14, if_neg (n4 hm)]
  simp only [jn]
  rw [nI_1, at4 hb hm]
  unfold rstep
  by_cases hmb : m = b
  · rw [if_pos (by rw [hmb]), if_pos hmb, if_pos trivial]
  · rw [if_neg (fun q => hmb ((nI_eq (by omega) (by omega)).mp q)), if_neg hmb]
    by_cases hz : V 14 (4 * b + m) = 0
    · rw [if_pos hz, if_pos hz, if_pos trivial]
    · rw [if_neg hz, if_neg hz]
      by_cases q : acc ≤ V 15 (4 * b + m)
      · have q2 : ¬ V 15 (4 * b + m) < acc := by rw [i_lt]; rw [i_le] at q; omega
        rw [if_pos q, if_neg q2, if_pos trivial]
      · have q2 : V 15 (4 * b + m) < acc := by rw [i_lt]; rw [i_le] at q; omega
        rw [if_neg q, if_pos q2, if_neg one_ne0]
theorem rstep_in (hr : ∀ m : Nat, m < 4 → -1 ≤ (V 15 (4 * b + m)).toInt ∧ (V 15 (4 * b + m)).toInt ≤ 40) {m : Nat} {acc : Int32} (hm : m < 4) (ha : -1 ≤ acc.toInt ∧ acc.toInt ≤ 40) : -1 ≤ (rstep V b m acc).toInt ∧ (rstep V b m acc).toInt ≤ 40 := by
  unfold rstep
  split
  · exact ha
  · split
    · exact ha
    · split
      · exact hr m hm
      · exact ha
theorem raise_sim (h0 : G n 0 = nI b) (hb : b < 4) (h7 : G n 7 = V 8 b) (hs : isSet (G n 11) (fun m => V 14 (4 * b + m))) (hf : ∀ m : Nat, m < 4 → G (n + 16) m = V 15 (4 * b + m)) (hr : ∀ m : Nat, m < 4 → -1 ≤ (V 15 (4 * b + m)).toInt ∧ (V 15 (4 * b + m)).toInt ≤ 40) (h8 : 0 ≤ (V 8 b).toInt ∧ (V 8 b).toInt ≤ 40) {d : Nat} (hd : d ≤ 40) (hE : G (n + 4) 2 = nI d) (hV : V 3 (V 7 b).toNatClampNeg = nI d) :
    ∃ w : Int32, (0 ≤ w.toInt ∧ w.toInt ≤ 40) ∧ f_B_raiseHw n G = g2 G n 7 w ∧ f_M_rise (nI b) V = g2 V 8 b w := by
  unfold f_B_raiseHw f_M_rise
  rw [cl4 hb, hE, hV, show (0 : Int32) = nI 0 by decide, raiseC h0 hb hs hf (by decide), raiseC h0 hb hs hf (by decide), raiseC h0 hb hs hf (by decide), raiseC h0 hb hs hf (by decide), raiseM hb (by decide), raiseM hb (by decide), raiseM hb (by decide), raiseM hb (by decide)]
  have ha : -1 ≤ (nI d).toInt ∧ (nI d).toInt ≤ 40 := by rw [nI_toInt (by omega)]; omega
  have hc := rstep_in hr (m := 3) (by decide) (rstep_in hr (m := 2) (by decide) (rstep_in hr (m := 1) (by decide) (rstep_in hr (m := 0) (by decide) ha)))
  generalize rstep V b 3 (rstep V b 2 (rstep V b 1 (rstep V b 0 (nI d)))) = acc at hc
  have h44 : (4 : Int32) ≤ nI (0 + 1 + 1 + 1 + 1) := by decide
  rw [f_B_raiseHw_10, f_M_rise_14, if_pos h44, if_pos h44, cl4 hb, h7]
  by_cases q : acc ≤ V 8 b
  · have q2 : ¬ V 8 b < acc := by rw [i_lt]; rw [i_le] at q; omega
    exact ⟨V 8 b, h8, by rw [if_neg q2], by rw [if_pos q]⟩
  · have q2 : V 8 b < acc := by rw [i_lt]; rw [i_le] at q; omega
    rw [i_le] at q
    exact ⟨acc, by omega, by rw [if_pos q2], by rw [if_neg (fun z => q (i_le.mp z))]⟩
theorem bc16 : ∀ k, k < 16 → f_Int_bitCount (nI k) = (0 + (if Nat.testBit k 0 then 1 else 0) + (if Nat.testBit k 1 then 1 else 0) + (if Nat.testBit k 2 then 1 else 0) + (if Nat.testBit k 3 then 1 else 0) : Int32) := by decide +kernel
theorem size_step (hb : b < 4) {f m : Nat} {acc : Int32} (hm : m < 4) : f_M_syncSize_4 (nI b) V (f + 1) acc (nI m) = f_M_syncSize_4 (nI b) V f (acc + (if V 14 (4 * b + m) = 0 then 0 else 1)) (nI (m + 1)) := by
  rw [f_M_syncSize_4, if_neg (n4 hm)]
  simp only [jn]
  rw [nI_1, at4 hb hm]
  split <;> rfl
theorem size_eq (hb : b < 4) {x : Int32} (hs : isSet x (fun m => V 14 (4 * b + m))) : f_M_syncSize (nI b) V = f_Int_bitCount x := by
  obtain ⟨k, hk, rfl, h⟩ := hs
  have t : ∀ m : Nat, m < 4 → (if V 14 (4 * b + m) = 0 then (0 : Int32) else 1) = if k.testBit m then 1 else 0 := fun m hm => by
    rw [show V 14 (4 * b + m) = if k.testBit m then 1 else 0 from h m hm]
    cases k.testBit m <;> decide
  unfold f_M_syncSize
  rw [bc16 k hk, ← t 0 (by decide), ← t 1 (by decide), ← t 2 (by decide), ← t 3 (by decide)]
  rw [show f_M_syncSize_4 (nI b) V 5 0 0 = f_M_syncSize_4 (nI b) V 5 0 (nI 0) by rw [nI_0], size_step hb (by decide), size_step hb (by decide), size_step hb (by decide), size_step hb (by decide), f_M_syncSize_4, if_pos (by decide)]
end RAISE
section TREEADD
variable {U U' : Nat → Nat → Int32} {r : Nat}
/-- the first r + 1 nodes are as they were -/
def sameR (r : Nat) (U U' : Nat → Nat → Int32) : Prop := ∀ j x : Nat, 2 ≤ j → j ≤ 6 → x ≤ r → U' j x = U j x
theorem sameR.e_dep (h : sameR r U U') {x : Nat} (hx : x ≤ r) : dep U' x = dep U x := by unfold dep; rw [h 3 x (by omega) (by omega) hx]
theorem sameR.e_elder (h : sameR r U U') {x : Nat} (hx : x ≤ r) : elder U' x = elder U x := by unfold elder; rw [h 2 x (by omega) (by omega) hx]
theorem sameR.e_epo (h : sameR r U U') {x : Nat} (hx : x ≤ r) : epo U' x = epo U x := by unfold epo; rw [h 4 x (by omega) (by omega) hx]
theorem sameR.e_stamp (h : sameR r U U') {x : Nat} (hx : x ≤ r) : stampN U' x = stampN U x := by unfold stampN; rw [h 6 x (by omega) (by omega) hx, h 4 x (by omega) (by omega) hx]
theorem sameR.e_goUp (h : sameR r U U') (hT : Tree U r) : ∀ t x : Nat, x ≤ r → t ≤ dep U x → goUp U' t x = goUp U t x := by
  intro t
  induction t with
  | zero => intro x _ _; rfl
  | succ t ih =>
    intro x hx ht
    show goUp U' t (elder U' x) = goUp U t (elder U x)
    have h0 := hT.pos hx (by omega)
    have h1 := hT.elder_lt h0 hx
    have h2 := hT.dep_s h0 hx
    rw [h.e_elder hx, ih _ (by omega) (by omega)]
theorem sameR.e_at (h : sameR r U U') (hT : Tree U r) {x d : Nat} (hx : x ≤ r) : nodeAt U' x d = nodeAt U x d := by
  unfold nodeAt
  rw [h.e_dep hx, h.e_goUp hT _ _ hx (by omega)]
theorem sameR.onP (h : sameR r U U') (hT : Tree U r) {x y : Nat} (hx : x ≤ r) (hy : y ≤ r) : onPath U' x y ↔ onPath U x y := by
  unfold onPath
  rw [h.e_dep hx, h.e_dep hy, h.e_at hT hx]
/-- one node more -/
theorem tree_add (hT : Tree U r) (h : sameR r U U') (hr : r + 1 < 519) {y : Nat} (hy : y ≤ r) {e : Int32} (e2 : U' 2 (r + 1) = nI y) (e3 : U' 3 (r + 1) = nI (dep U y + 1)) (hd : dep U y + 1 ≤ 40) (e4 : U' 4 (r + 1) = e) (hle : epo U y ≤ e.toInt) (h1 : 1 ≤ e.toInt) (h2 : e.toInt ≤ 1000) (e6 : zb (U' 6 (r + 1))) (hu : ∀ x : Nat, x ≤ r → epo U x = e.toInt → dep U x ≤ dep U y) :
    Tree U' (r + 1) ∧ elder U' (r + 1) = y ∧ dep U' (r + 1) = dep U y + 1 ∧ epo U' (r + 1) = e.toInt := by
  have E1 : elder U' (r + 1) = y := by unfold elder; rw [e2, nI_clamp (by omega)]
  have E2 : dep U' (r + 1) = dep U y + 1 := by unfold dep; rw [e3, nI_clamp (by omega)]; rfl
  have E3 : epo U' (r + 1) = e.toInt := by unfold epo; rw [e4]
  obtain ⟨t1, t2, t3, t4⟩ := hT
  have hT : Tree U r := ⟨t1, t2, t3, t4⟩
  refine ⟨⟨hr, ?_, fun x h0 hx => ?_, fun x z hx hz ed ee => ?_⟩, E1, E2, E3⟩
  · rw [h 2 0 (by omega) (by omega) (by omega), h 3 0 (by omega) (by omega) (by omega), h 4 0 (by omega) (by omega) (by omega), h 5 0 (by omega) (by omega) (by omega), h 6 0 (by omega) (by omega) (by omega)]
    exact t2
  · by_cases q : x = r + 1
    · subst q
      rw [E1, h.e_dep hy, h.e_epo hy, E3, e2, e3]
      exact ⟨by omega, rfl, rfl, hd, hle, h1, h2, e6⟩
    · have hx' : x ≤ r := by omega
      have hl := hT.elder_lt h0 hx'
      rw [h.e_elder hx', h.e_dep (show elder U x ≤ r by omega), h.e_epo (show elder U x ≤ r by omega), h.e_epo hx', h 2 x (by omega) (by omega) hx', h 3 x (by omega) (by omega) hx', h 6 x (by omega) (by omega) hx']
      exact t3 x h0 hx'
  · by_cases qx : x = r + 1
    · by_cases qz : z = r + 1
      · rw [qx, qz]
      · have hz' : z ≤ r := by omega
        rw [qx, E2, h.e_dep hz'] at ed
        rw [qx, E3, h.e_epo hz'] at ee
        have := hu z hz' ee.symm
        omega
    · by_cases qz : z = r + 1
      · have hx' : x ≤ r := by omega
        rw [qz, E2, h.e_dep hx'] at ed
        rw [qz, E3, h.e_epo hx'] at ee
        have := hu x hx' ee
        omega
      · rw [h.e_dep (show x ≤ r by omega), h.e_dep (show z ≤ r by omega)] at ed
        rw [h.e_epo (show x ≤ r by omega), h.e_epo (show z ≤ r by omega)] at ee
        exact t4 x z (by omega) (by omega) ed ee
end TREEADD
