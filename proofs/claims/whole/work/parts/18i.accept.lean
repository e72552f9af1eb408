/-! A reply is taken: the follower waits no more, its log is another. -/
section ACC
variable {k : Nat} {G G' U U' : Nat → Nat → Int32} {P : Nat → Nat} {c : Nat}
theorem unwait_inv (hI : Inv k G P U) (hc : c < 4) : Inv k (g2 G (2 + c) 9 0) P (g2 U 13 c 0) := by
  obtain ⟨⟨r0, r4, r5, r6, r7, r8, r9⟩, r2, r3⟩ := hI.2.1.2.1 c hc
  obtain ⟨s0, s1, s2, s3, s4, s5, s6, s7⟩ := hI.2.1.1
  obtain ⟨a1, a2, a3, a4, a5, a6, a7, a8, a9, a10, a11, a12, a13⟩ := hI.2.2.2.2.2.2.1 c hc
  have eG : ∀ r : Nat, r ≠ 2 + c → g2 G (2 + c) 9 0 r = G r := fun r h => g2_ne _ _ _ h
  have eK : ∀ j : Nat, j ≠ 9 → g2 G (2 + c) 9 0 (2 + c) j = G (2 + c) j := fun j h => g2_k _ _ _ h
  have u : ∀ j : Nat, j ≠ 13 → g2 U 13 c 0 j = U j := fun j h => g2_ne _ _ _ h
  have u13 : g2 U 13 c 0 13 c = 0 := g2_at _ _ _ _
  have hT : sameT U (g2 U 13 c 0) := ⟨u _ (by decide), u _ (by decide), u _ (by decide), u _ (by decide), u _ (by decide)⟩
  refine Inv_oneK (c := c) (Nat.le_refl k) hI.1 hI ?_ ?_ (fun b hb hbc => ⟨eG _ (by omega), eG _ (by omega), eG _ (by omega), eG _ (by omega), eG _ (by omega), eG _ (by omega)⟩) (fun r hr => eG r (by omega)) hT (fun j _ => by rw [u 0 (by decide)]) (fun j b hb _ _ => g2_col hb) (fun b _ => by rw [u 17 (by decide)]) (fun b m _ _ => ⟨by rw [u 14 (by decide)], by rw [u 15 (by decide)], by rw [u 16 (by decide)]⟩) (fun j a1 a2 => u j (by omega)) (fun _ => ?_) (fun _ => ?_) (fun _ => ?_) (fun _ => ?_) (fun b hb _ hbc e ne => ?_) (fun i hi hf hM => ?_)
  · unfold RS
    rw [eG 0 (by omega), eG 26 (by omega), eG 27 (by omega), u 0 (by decide), u 1 (by decide)]
    exact ⟨s0, s1, s2, s3, s4, s5, s6, s7⟩
  · rw [u 1 (by decide)]
    exact hI.2.2.2.2.2.1
  · unfold RB
    rw [g2_at, u13, eK 0 (by decide), eK 4 (by decide), eK 5 (by decide), eK 6 (by decide), eK 7 (by decide), eK 8 (by decide), u 9 (by decide), u 10 (by decide), u 11 (by decide), u 8 (by decide), u 12 (by decide)]
    exact ⟨r0, r4, r5, r6, r7, r8, rfl⟩
  · exact RL_fr hT (by rw [u 7 (by decide)]) (by rw [eG _ (by omega)]) (eG _ (by omega)) (eG _ (by omega)) r2
  · exact RK_fr (fun j hj => eK j (by omega)) (eG _ (by omega)) (eG _ (by omega)) (by rw [u 11 (by decide)]) (by rw [u 17 (by decide)]) (fun m _ => ⟨by rw [u 14 (by decide)], by rw [u 15 (by decide)], by rw [u 16 (by decide)]⟩) r3
  · unfold okB onPath
    rw [lastN_fr (U := U) (by rw [u 7 (by decide)]), recN_fr (U := U) (by rw [u 0 (by decide)]), hT.e_dep, hT.e_epo, hT.e_nodeAt, u13, u 0 (by decide), u 7 (by decide), u 8 (by decide), u 9 (by decide), u 10 (by decide), u 11 (by decide), u 12 (by decide), u 14 (by decide), u 15 (by decide), u 17 (by decide)]
    exact ⟨a1, a2, a3, Or.inl rfl, a5, a6, a7, a8, a9, a10, fun q => absurd q (by decide), a12, a13⟩
  · rw [u 10 (by decide)] at e ne
    rw [u 11 (by decide)]
    exact hI.2.2.2.2.2.2.2.1 b c hb hc e ne
  · refine okM_dead hT (by rw [u 0 (by decide)]; exact Int.le_refl _) (by rw [u 0 (by decide)]) (fun j b1 b2 => by rw [u j (by omega)]) (by rw [u 12 (by decide)]; exact Int.le_refl _) (fun q => ?_) hM
    have := q.1
    rw [folN_eq (fun j b1 b2 => by rw [u j (by omega)]), hf, u13] at this
    exact absurd this (by decide)
/-- a follower that waits for nothing gets another log and another HW -/
theorem newlog_inv (hI : Inv k G P U) (hc : c < 4) (h13 : U 13 c = 0) (h11 : ¬ U 11 c = nI c) (h10 : ¬ U 10 c = 0) {y : Nat} {h : Int32} (hy : y ≤ recN U) (hh : 0 ≤ h.toInt ∧ h.toInt ≤ 40) (hep : epo U y ≤ (U 10 c).toInt)
    (eG : ∀ r : Nat, r ≠ 2 + c → r ≠ 2 + c + 4 → r ≠ 2 + c + 8 → r ≠ 2 + c + 12 → G' r = G r) (eK : ∀ j : Nat, j ≠ 7 → G' (2 + c) j = G (2 + c) j) (k7 : G' (2 + c) 7 = h)
    (u : ∀ j : Nat, j ≠ 7 → j ≠ 8 → U' j = U j) (u7 : U' 7 c = nI y) (u8 : U' 8 c = h) (uC : ∀ j b : Nat, b ≠ c → U' j b = U j b)
    (kE : G' (2 + c + 4) 2 = nI (dep U y)) (kR : ∀ i : Nat, i < dep U y → G' (2 + c + 8) i = stampN U (nodeAt U y (i + 1)) ∧ G' (2 + c + 12) i = U 5 (nodeAt U y (i + 1))) : Inv k G' P U' := by
  obtain ⟨⟨r0, r4, r5, r6, r7, r8, r9⟩, r2, r3⟩ := hI.2.1.2.1 c hc
  obtain ⟨s0, s1, s2, s3, s4, s5, s6, s7⟩ := hI.2.1.1
  obtain ⟨a1, a2, a3, a4, a5, a6, a7, a8, a9, a10, a11, a12, a13⟩ := hI.2.2.2.2.2.2.1 c hc
  have hrec := inv_rec hI
  have hT : sameT U U' := ⟨u _ (by decide) (by decide), u _ (by decide) (by decide), u _ (by decide) (by decide), u _ (by decide) (by decide), u _ (by decide) (by decide)⟩
  have hlast : lastN U' c = y := by unfold lastN; rw [u7, nI_clamp (by omega)]
  refine Inv_oneK (c := c) (Nat.le_refl k) hI.1 hI ?_ ?_ (fun b hb hbc => ⟨eG _ (by omega) (by omega) (by omega) (by omega), eG _ (by omega) (by omega) (by omega) (by omega), eG _ (by omega) (by omega) (by omega) (by omega), eG _ (by omega) (by omega) (by omega) (by omega), eG _ (by omega) (by omega) (by omega) (by omega), eG _ (by omega) (by omega) (by omega) (by omega)⟩) (fun r hr => eG r (by omega) (by omega) (by omega) (by omega)) hT (fun j _ => by rw [u 0 (by decide) (by decide)]) (fun j b hb _ _ => uC j b hb) (fun b _ => by rw [u 17 (by decide) (by decide)]) (fun b m _ _ => ⟨by rw [u 14 (by decide) (by decide)], by rw [u 15 (by decide) (by decide)], by rw [u 16 (by decide) (by decide)]⟩) (fun j a1 a2 => u j (by omega) (by omega)) (fun _ => ?_) (fun _ => ?_) (fun _ => ?_) (fun _ => ?_) (fun b hb _ hbc e ne => ?_) (fun i hi hf hM => ?_)
  · unfold RS
    rw [eG 0 (by omega) (by omega) (by omega) (by omega), eG 26 (by omega) (by omega) (by omega) (by omega), eG 27 (by omega) (by omega) (by omega) (by omega), u 0 (by decide) (by decide), u 1 (by decide) (by decide)]
    exact ⟨s0, s1, s2, s3, s4, s5, s6, s7⟩
  · rw [u 1 (by decide) (by decide)]
    exact hI.2.2.2.2.2.1
  · unfold RB
    rw [k7, u8, eK 0 (by decide), eK 4 (by decide), eK 5 (by decide), eK 6 (by decide), eK 8 (by decide), eK 9 (by decide), u 9 (by decide) (by decide), u 10 (by decide) (by decide), u 11 (by decide) (by decide), u 12 (by decide) (by decide), u 13 (by decide) (by decide)]
    exact ⟨r0, r4, r5, r6, rfl, r8, r9⟩
  · unfold RL
    rw [hlast, hT.e_dep, hT.e_nodeAt, hT.e_stampN, hT.2.2.2.1]
    exact ⟨kE, kR⟩
  · intro q
    rw [u 11 (by decide) (by decide)] at q
    exact absurd q h11
  · unfold okB onPath
    rw [hlast, recN_fr (U := U) (by rw [u 0 (by decide) (by decide)]), hT.e_dep, hT.e_epo, hT.e_nodeAt, u7, u8, u 0 (by decide) (by decide), u 9 (by decide) (by decide), u 10 (by decide) (by decide), u 11 (by decide) (by decide), u 12 (by decide) (by decide), u 13 (by decide) (by decide), u 14 (by decide) (by decide), u 15 (by decide) (by decide), u 17 (by decide) (by decide)]
    refine ⟨⟨rfl, hy⟩, hh, a3, a4, a5, a6, a7, a8, a9, fun _ => hep, a11, fun q => absurd q h11, fun q => ?_⟩
    have hne : ¬ U 10 c = U 0 4 := fun z => h11 ((a9 z).trans q)
    exact ⟨fun x hx he => absurd he ((a13 q).2 h10 hne x hx), (a13 q).2⟩
  · rw [u 10 (by decide) (by decide)] at e ne
    rw [u 11 (by decide) (by decide)]
    exact hI.2.2.2.2.2.2.2.1 b c hb hc e ne
  · refine okM_dead hT (by rw [u 0 (by decide) (by decide)]; exact Int.le_refl _) (by rw [u 0 (by decide) (by decide)]) (fun j b1 b2 => by rw [u j (by omega) (by omega)]) (by rw [u 12 (by decide) (by decide)]; exact Int.le_refl _) (fun q => ?_) hM
    have := q.1
    rw [folN_eq (fun j b1 b2 => by rw [u j (by omega) (by omega)]), hf, u 13 (by decide) (by decide), h13] at this
    exact absurd this (by decide)
/-- how many of a path's first records have an epoch of at most e -/
def isCnt (U : Nat → Nat → Int32) (y c : Nat) (e : Int) : Prop := c ≤ dep U y ∧ (0 < c → epo U (nodeAt U y c) ≤ e) ∧ (c < dep U y → e < epo U (nodeAt U y (c + 1)))
theorem isCnt_one (hT : Tree U (recN U)) {y a b : Nat} {e : Int} (hy : y ≤ recN U) (h1 : isCnt U y a e) (h2 : isCnt U y b e) : a = b := by
  have key : ∀ a b : Nat, isCnt U y a e → isCnt U y b e → ¬ a < b := fun a b h1 h2 hab => by
    have q1 := h1.2.2 (by have := h2.1; omega)
    have q2 := h2.2.1 (by omega)
    have q3 := hT.epo_at hy (show a + 1 ≤ b by omega) h2.1
    omega
  have k1 := key a b h1 h2
  have k2 := key b a h2 h1
  omega
theorem cnt_loop (hI : Inv k G P U) (hc : c < 4) {e : Int32} : ∀ (f v : Nat), v ≤ dep U (lastN U c) → dep U (lastN U c) + 1 ≤ v + f → (0 < v → epo U (nodeAt U (lastN U c) v) ≤ e.toInt) → ∃ n : Nat, f_L_countUpTo_2 (2 + c + 4) e G f (nI v) = nI n ∧ isCnt U (lastN U c) n e.toInt := by
  have h40 := inv_dep hI hc
  intro f
  induction f with
  | zero => intro v h1 h2; omega
  | succ f ih =>
    intro v h1 h2 hv
    rw [f_L_countUpTo_2, (hI.2.1.2.1 c hc).2.1.1]
    by_cases hd : v = dep U (lastN U c)
    · rw [if_pos (nI_le (by omega) (by omega))]
      exact ⟨v, rfl, h1, hv, fun q => by omega⟩
    · rw [if_neg (nI_ge (by omega) (by omega)), epochOf_in hI hc (by omega)]
      by_cases q : e < U 4 (nodeAt U (lastN U c) (v + 1))
      · rw [if_pos q]
        exact ⟨v, rfl, h1, hv, fun _ => i_lt.mp q⟩
      · rw [if_neg q, nI_1]
        refine ih (v + 1) (by omega) (by omega) (fun _ => ?_)
        rw [i_lt] at q
        unfold epo
        omega
theorem count_eq (hI : Inv k G P U) (hc : c < 4) {e : Int32} : ∃ n : Nat, isCnt U (lastN U c) n e.toInt ∧ f_L_countUpTo (2 + c + 4) e G = nI n ∧ f_M_underEpoch (nI c) e U = nI (nodeAt U (lastN U c) n) := by
  have h40 := inv_dep hI hc
  have hT := hI.2.2.2.1
  have hrec := inv_rec hI
  obtain ⟨l1, l2⟩ := (hI.2.2.2.2.2.2.1 c hc).1
  obtain ⟨n, e1, e2⟩ := cnt_loop hI hc (e := e) 42 0 (by omega) (by omega) (fun q => by omega)
  obtain ⟨m, m1, m2, m3, m4⟩ := under_7 hT (x1 := nI c) (e := e) 521 (lastN U c) l2 (by omega)
  have hnm : n = m := isCnt_one hT l2 e2 ⟨m1, m3, m4⟩
  subst hnm
  refine ⟨n, e2, ?_, ?_⟩
  · unfold f_L_countUpTo
    rw [← nI_0]
    exact e1
  · unfold f_M_underEpoch
    rw [cl4 hc, l1]
    exact m2
end ACC
