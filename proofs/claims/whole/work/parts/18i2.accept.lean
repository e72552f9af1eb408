section ACC2
variable {k : Nat} {G G' U U' : Nat → Nat → Int32} {P : Nat → Nat} {c : Nat}
/-- a CUT -/
theorem cut_sim (hI : Inv k G P U) (hc : c < 4) (h13 : U 13 c = 0) (h11 : ¬ U 11 c = nI c) (h10 : ¬ U 10 c = 0) {a : Nat} (ha : a ≤ 40) {e : Int32} (w5 : U 26 5 = nI a) (w6 : U 26 6 = e) :
    Inv k (f_L_cutTo (2 + c + 4) (if f_L_countUpTo (2 + c + 4) e G < nI a then f_L_countUpTo (2 + c + 4) e G else nI a) G) P (f_M_cut (nI c) U) := by
  have h40 := inv_dep hI hc
  have hT := hI.2.2.2.1
  have hrec := inv_rec hI
  have hO := hI.2.2.2.2.2.2.1 c hc
  obtain ⟨l1, l2⟩ := hO.1
  obtain ⟨⟨r0, r4, r5, r6, r7, r8, r9⟩, r2, r3⟩ := hI.2.1.2.1 c hc
  obtain ⟨n, ⟨c1, c2, c3⟩, e1, e2⟩ := count_eq hI hc (e := e)
  have hle := hT.at_le (d := n) l2
  have hdn := hT.at_dep l2 c1
  generalize hd : dep U (lastN U c) = d at *
  have eC : f_L_cutTo (2 + c + 4) (if f_L_countUpTo (2 + c + 4) e G < nI a then f_L_countUpTo (2 + c + 4) e G else nI a) G = g2 G (2 + c + 4) 2 (nI (min n a)) := by
    unfold f_L_cutTo
    rw [e1, r2.1, hd]
    have x1 : (if nI n < nI a then nI n else nI a) = nI (min n a) := by
      by_cases q : n < a
      · rw [if_pos (nI_lt q (by omega)), show min n a = n by omega]
      · rw [if_neg (nI_nlt (by omega) (by omega)), show min n a = a by omega]
    rw [x1]
    by_cases q : min n a < d
    · rw [if_pos (nI_lt q (by omega))]
    · rw [if_neg (nI_nlt (by omega) (by omega)), show min n a = d by omega]
  have eM : f_M_cut (nI c) U = g2 U 7 c (nI (nodeAt U (lastN U c) (min n a))) := by
    unfold f_M_cut
    rw [w5, w6, e2, nI_clamp (by omega), hT.dep_n (by omega), hdn, cl4 hc]
    by_cases q : a ≤ n
    · rw [if_pos (nI_le q (by omega)), upTo_n hI hc (by omega), show min n a = a by omega]
    · rw [if_neg (nI_ge (by omega) (by omega)), show min n a = n by omega]
  rw [eC, eM]
  have hmd : min n a ≤ dep U (lastN U c) := by omega
  have hy := hT.at_le (d := min n a) l2
  have hdy := hT.at_dep l2 hmd
  refine newlog_inv hI hc h13 h11 h10 (y := nodeAt U (lastN U c) (min n a)) (h := U 8 c) (by omega) hO.2.1 ?_ (fun r _ a2 _ _ => g2_ne _ _ _ a2) (fun j _ => by rw [g2_ne _ _ _ (by omega)]) (by rw [g2_ne _ _ _ (by omega)]; exact r7) (fun j b1 _ => g2_ne _ _ _ b1) (g2_at _ _ _ _) (by rw [g2_ne _ _ _ (by decide)]) (fun j b hb => g2_col hb) (by rw [g2_at, hdy]) (fun i hi => ?_)
  · have q1 := hT.epo_at l2 hmd (Nat.le_refl _)
    rw [nodeAt_self] at q1
    have q2 := hO.2.2.2.2.2.2.2.2.2.1 h10
    omega
  · rw [hdy] at hi
    rw [g2_ne _ _ _ (by omega), g2_ne _ _ _ (by omega), hT.at_at l2 hmd (by omega)]
    exact r2.2 i (by omega)
/-- records are appended one by one -/
theorem app_loop {q d a : Nat} (hq : 29 ≤ q) (ha3 : a ≤ 3) (h7 : G q 7 = nI a) (hda : d + a ≤ 40) (hc : c < 4) : ∀ (f v : Nat) (X : Nat → Nat → Int32), v ≤ a → 4 ≤ v + f →
    (∀ r : Nat, r ≠ 2 + c + 4 → r ≠ 2 + c + 8 → r ≠ 2 + c + 12 → X r = G r) → X (2 + c + 4) 2 = nI (d + v) → (∀ i : Nat, X (2 + c + 8) i = if d ≤ i ∧ i < d + v then G (q + 9) (i - d) else G (2 + c + 8) i) → (∀ i : Nat, X (2 + c + 12) i = if d ≤ i ∧ i < d + v then G (q + 18) (i - d) else G (2 + c + 12) i) →
    ∃ Y : Nat → Nat → Int32, f_G_appendRecords_2 q (2 + c + 4) G f (nI v) X = Y ∧ (∀ r : Nat, r ≠ 2 + c + 4 → r ≠ 2 + c + 8 → r ≠ 2 + c + 12 → Y r = G r) ∧ Y (2 + c + 4) 2 = nI (d + a) ∧ (∀ i : Nat, Y (2 + c + 8) i = if d ≤ i ∧ i < d + a then G (q + 9) (i - d) else G (2 + c + 8) i) ∧ ∀ i : Nat, Y (2 + c + 12) i = if d ≤ i ∧ i < d + a then G (q + 18) (i - d) else G (2 + c + 12) i := by
  intro f
  induction f with
  | zero => intro v X h1 h2; omega
  | succ f ih =>
    intro v X h1 h2 x1 x2 x3 x4
    rw [f_G_appendRecords_2, x1 q (by omega) (by omega) (by omega), h7]
    by_cases hv : v = a
    · rw [if_pos (nI_le (by omega) (by omega))]
      subst hv
      exact ⟨X, rfl, x1, x2, x3, x4⟩
    · have h3 : ¬ (3 : Int32) ≤ nI v := by
        rw [show (3 : Int32) = nI 3 by decide]
        exact nI_ge (by omega) (by omega)
      rw [if_neg (nI_ge (by omega) (by omega)), if_neg h3, nI_1, nI_clamp (by omega), x1 (q + 9) (by omega) (by omega) (by omega), x1 (q + 18) (by omega) (by omega) (by omega), add_eq (d := d + v) x2 (by omega)]
      refine ih (v + 1) _ (by omega) (by omega) (fun r b1 b2 b3 => ?_) ?_ (fun i => ?_) (fun i => ?_)
      · rw [g2_ne _ _ _ b1, g2_ne _ _ _ b3, g2_ne _ _ _ b2, x1 r b1 b2 b3]
      · rw [g2_at]
        rfl
      · rw [g2_ne _ _ _ (by omega), g2_ne _ _ _ (by omega)]
        by_cases e : i = d + v
        · subst e
          rw [g2_at, if_pos (by omega), show d + v - d = v by omega]
        · rw [g2_k _ _ _ e, x3 i]
          by_cases z : d ≤ i ∧ i < d + v
          · rw [if_pos z, if_pos (by omega)]
          · rw [if_neg z, if_neg (by omega)]
      · rw [g2_ne _ _ _ (by omega)]
        by_cases e : i = d + v
        · subst e
          rw [g2_at, if_pos (by omega), show d + v - d = v by omega]
        · rw [g2_k _ _ _ e, g2_ne _ _ _ (by omega), x4 i]
          by_cases z : d ≤ i ∧ i < d + v
          · rw [if_pos z, if_pos (by omega)]
          · rw [if_neg z, if_neg (by omega)]
/-- a BATCH -/
theorem ext_sim (hI : Inv k G P U) (hc : c < 4) (h13 : U 13 c = 0) (h11 : ¬ U 11 c = nI c) (h10 : ¬ U 10 c = 0) {q a ld : Nat} {e : Int32} (hq : 29 ≤ q) (ha3 : a ≤ 3) (h7 : G q 7 = nI a) (h8 : G q 8 = e) (he : 0 ≤ e.toInt ∧ e.toInt ≤ 40) (w5 : U 26 5 = nI a) (w6 : U 26 6 = e) (w7 : U 26 7 = nI ld) (hld : ld ≤ recN U) (hal : a ≤ dep U ld) (hep : epo U ld ≤ (U 10 c).toInt) (hat : nodeAt U ld (dep U ld - a) = lastN U c)
    (hR : ∀ j : Nat, j < a → G (q + 9) j = stampN U (nodeAt U ld (dep U ld - a + j + 1)) ∧ G (q + 18) j = U 5 (nodeAt U ld (dep U ld - a + j + 1))) :
    Inv k (g2 (f_G_appendRecords q (2 + c + 4) G) (2 + c) 7 (if (f_G_appendRecords q (2 + c + 4) G) (2 + c) 7 < (if (f_G_appendRecords q (2 + c + 4) G) (2 + c + 4) 2 < (f_G_appendRecords q (2 + c + 4) G) q 8 then (f_G_appendRecords q (2 + c + 4) G) (2 + c + 4) 2 else (f_G_appendRecords q (2 + c + 4) G) q 8) then (if (f_G_appendRecords q (2 + c + 4) G) (2 + c + 4) 2 < (f_G_appendRecords q (2 + c + 4) G) q 8 then (f_G_appendRecords q (2 + c + 4) G) (2 + c + 4) 2 else (f_G_appendRecords q (2 + c + 4) G) q 8) else (f_G_appendRecords q (2 + c + 4) G) (2 + c) 7)) P (f_M_extend (nI c) U) := by
  have hT := hI.2.2.2.1
  have hrec := inv_rec hI
  have hO := hI.2.2.2.2.2.2.1 c hc
  obtain ⟨l1, l2⟩ := hO.1
  obtain ⟨⟨r0, r4, r5, r6, r7, r8, r9⟩, r2, r3⟩ := hI.2.1.2.1 c hc
  have h40 := hT.dep_le hld
  have hdl : dep U (lastN U c) = dep U ld - a := by rw [← hat]; exact hT.at_dep hld (by omega)
  generalize hd : dep U ld - a = d at *
  have hda : d + a = dep U ld := by omega
  obtain ⟨Y, eY, y1, y2, y3, y4⟩ := app_loop (G := G) (q := q) (d := d) (a := a) (c := c) hq ha3 h7 (by omega) hc 4 0 G (by omega) (by omega) (fun _ _ _ _ => rfl) (by rw [r2.1, hdl]; rfl) (fun i => by rw [if_neg (by omega)]) (fun i => by rw [if_neg (by omega)])
  have eA : f_G_appendRecords q (2 + c + 4) G = Y := by
    unfold f_G_appendRecords
    rw [← nI_0]
    exact eY
  rw [eA, y1 (2 + c) (by omega) (by omega) (by omega), y1 q (by omega) (by omega) (by omega), y2, hda, r7, h8]
  -- the reference: in both cases the last node is the load
  have hlast : (if nI a ≤ (0 : Int32) then U 7 c else U 26 7) = nI ld := by
    by_cases z : a = 0
    · subst z
      rw [if_pos (by decide), l1, ← hat]
      have : d = dep U ld := by omega
      rw [this, nodeAt_self]
    · rw [if_neg (nI_nle (by omega) (by omega)), w7]
  have e3 : ∀ x : Int32, g2 U 7 c x 7 c = x := fun x => g2_at _ _ _ _
  have e8 : ∀ x : Int32, g2 U 7 c x 8 c = U 8 c := fun x => by rw [g2_ne _ _ _ (by decide)]
  have eM : f_M_extend (nI c) U = g2 (g2 U 7 c (nI ld)) 8 c (if U 8 c < (if nI (dep U ld) < e then nI (dep U ld) else e) then (if nI (dep U ld) < e then nI (dep U ld) else e) else U 8 c) := by
    have step : ∀ t : Int32, t = nI ld → (if U 3 (g2 U 7 c t 7 c).toNatClampNeg ≤ U 26 6 then (if U 3 (g2 U 7 c t 7 c).toNatClampNeg ≤ g2 U 7 c t 8 c then g2 (g2 U 7 c t) 8 c (g2 U 7 c t 8 c) else g2 (g2 U 7 c t) 8 c (U 3 (g2 U 7 c t 7 c).toNatClampNeg)) else (if U 26 6 ≤ g2 U 7 c t 8 c then g2 (g2 U 7 c t) 8 c (g2 U 7 c t 8 c) else g2 (g2 U 7 c t) 8 c (U 26 6))) = g2 (g2 U 7 c (nI ld)) 8 c (if U 8 c < (if nI (dep U ld) < e then nI (dep U ld) else e) then (if nI (dep U ld) < e then nI (dep U ld) else e) else U 8 c) := fun t ht => by
      subst ht
      rw [e3, e8, nI_clamp (by omega), hT.dep_n hld, w6]
      have mx : (if nI (dep U ld) < e then nI (dep U ld) else e) = if nI (dep U ld) ≤ e then nI (dep U ld) else e := by
        by_cases z : nI (dep U ld) < e
        · rw [if_pos z, if_pos (by rw [i_le]; rw [i_lt] at z; omega)]
        · rw [if_neg z]
          by_cases z2 : nI (dep U ld) ≤ e
          · rw [if_pos z2]
            apply Int32.toInt_inj.mp
            rw [i_lt] at z
            rw [i_le] at z2
            omega
          · rw [if_neg z2]
      rw [mx]
      by_cases z : nI (dep U ld) ≤ e
      · rw [if_pos z, if_pos z]
        by_cases z2 : nI (dep U ld) ≤ U 8 c
        · rw [if_pos z2, if_neg (by rw [i_lt]; rw [i_le] at z2; omega)]
        · rw [if_neg z2, if_pos (by rw [i_lt]; rw [i_le] at z2; omega)]
      · rw [if_neg z, if_neg z]
        by_cases z2 : e ≤ U 8 c
        · rw [if_pos z2, if_neg (by rw [i_lt]; rw [i_le] at z2; omega)]
        · rw [if_neg z2, if_pos (by rw [i_lt]; rw [i_le] at z2; omega)]
    unfold f_M_extend
    simp only [jn]
    rw [cl4 hc, w5]
    rw [← step _ hlast]
    by_cases z : nI a ≤ (0 : Int32)
    · rw [if_pos z, if_pos z]
    · rw [if_neg z, if_neg z]
  rw [eM]
  have hw : 0 ≤ (if U 8 c < (if nI (dep U ld) < e then nI (dep U ld) else e) then (if nI (dep U ld) < e then nI (dep U ld) else e) else U 8 c).toInt ∧ (if U 8 c < (if nI (dep U ld) < e then nI (dep U ld) else e) then (if nI (dep U ld) < e then nI (dep U ld) else e) else U 8 c).toInt ≤ 40 := by
    have hm : 0 ≤ (if nI (dep U ld) < e then nI (dep U ld) else e).toInt ∧ (if nI (dep U ld) < e then nI (dep U ld) else e).toInt ≤ 40 := by
      split
      · rw [nI_toInt (by omega)]; omega
      · exact he
    by_cases z : U 8 c < (if nI (dep U ld) < e then nI (dep U ld) else e)
    · rw [if_pos z]; exact hm
    · rw [if_neg z]; exact hO.2.1
  generalize (if U 8 c < (if nI (dep U ld) < e then nI (dep U ld) else e) then (if nI (dep U ld) < e then nI (dep U ld) else e) else U 8 c) = h at hw
  refine newlog_inv hI hc h13 h11 h10 (y := ld) (h := h) hld hw hep (fun r b1 b2 b3 b4 => by rw [g2_ne _ _ _ b1, y1 r b2 b3 b4]) (fun j b1 => by rw [g2_k _ _ _ b1, y1 _ (by omega) (by omega) (by omega)]) (g2_at _ _ _ _) (fun j b1 b2 => by rw [g2_ne _ _ _ b2, g2_ne _ _ _ b1]) (by rw [g2_ne _ _ _ (by decide), g2_at]) (g2_at _ _ _ _) (fun j b hb => by rw [g2_col hb, g2_col hb]) (by rw [g2_ne _ _ _ (by omega), y2, hda]) (fun i hi => ?_)
  rw [g2_ne _ _ _ (by omega), g2_ne _ _ _ (by omega), y3 i, y4 i]
  by_cases z : d ≤ i ∧ i < d + a
  · rw [if_pos z, if_pos z]
    have := hR (i - d) (by omega)
    rw [show d + (i - d) + 1 = i + 1 by omega] at this
    exact this
  · rw [if_neg z, if_neg z]
    have := r2.2 i (by omega)
    rw [← hat, hT.at_at hld (by omega) (by omega)] at this
    exact this
end ACC2
