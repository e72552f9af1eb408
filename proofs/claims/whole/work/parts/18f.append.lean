/-! produce and commit. -/
section APP
variable {k : Nat} {G G' U U' : Nat → Nat → Int32} {P : Nat → Nat} {b r d : Nat}
theorem RL_R (h : sameR r U U') (hT : Tree U r) {c : Nat} (hc : lastN U c ≤ r) (h7 : U' 7 c = U 7 c) (h1 : G' (2 + c + 4) 2 = G (2 + c + 4) 2) (h2 : G' (2 + c + 8) = G (2 + c + 8)) (h3 : G' (2 + c + 12) = G (2 + c + 12)) (hR : RL G U c) : RL G' U' c := by
  unfold RL
  rw [lastN_fr h7, h.e_dep hc, h1, h2, h3]
  refine ⟨hR.1, fun i hi => ?_⟩
  have hle := hT.at_le (d := i + 1) hc
  rw [h.e_at hT hc, h.e_stamp (by omega), h 5 _ (by omega) (by omega) (by omega)]
  exact hR.2 i hi
theorem RM_R (h : sameR r U U') (hT : Tree U r) {i : Nat} (hl : (U 25 i).toNatClampNeg ≤ r) (hG : G' (29 + P i) = G (29 + P i)) (h9 : G' (29 + P i + 9) = G (29 + P i + 9)) (h18 : G' (29 + P i + 18) = G (29 + P i + 18)) (hm : ∀ j : Nat, 18 ≤ j → j ≤ 25 → U' j i = U j i) (hR : RM G P U i) : RM G' P U' i := by
  unfold RM
  rw [hG, h9, h18, hm 18 (by omega) (by omega), hm 23 (by omega) (by omega), hm 25 (by omega) (by omega), h.e_dep hl]
  refine ⟨fun w hw => ?_, fun q j hj => ?_⟩
  · rw [hm (18 + w) (by omega) (by omega)]
    exact hR.1 w hw
  · have hle := hT.at_le (d := dep U (U 25 i).toNatClampNeg - (U 23 i).toNatClampNeg + j + 1) hl
    rw [h.e_at hT hl, h.e_stamp (by omega), h 5 _ (by omega) (by omega) (by omega)]
    exact hR.2 q j hj
theorem add_inv (hk : k + 1 ≤ 512) (hI : Inv k G P U) (hb : b < 4) (hl : U 11 b = nI b) (hd : d = dep U (lastN U b)) (hr : r = recN U) (h40 : d < 40) {w v mk : Int32} (hw : 0 ≤ w.toInt ∧ w.toInt ≤ 40) (hmk : zb mk)
    (eG : ∀ q : Nat, q ≠ 2 + b → q ≠ 2 + b + 4 → q ≠ 2 + b + 8 → q ≠ 2 + b + 12 → G' q = G q) (eK : ∀ j : Nat, j ≠ 7 → G' (2 + b) j = G (2 + b) j) (k7 : G' (2 + b) 7 = w) (kE : G' (2 + b + 4) 2 = nI (d + 1))
    (k8 : ∀ i : Nat, G' (2 + b + 8) i = if i = d then (if mk = 0 then U 10 b else -(U 10 b)) else G (2 + b + 8) i) (k12 : ∀ i : Nat, G' (2 + b + 12) i = if i = d then v else G (2 + b + 12) i)
    (u0 : ∀ j : Nat, j ≠ 7 → U' 0 j = U 0 j) (u07 : U' 0 7 = nI (r + 1)) (uT : ∀ j x : Nat, 2 ≤ j → j ≤ 6 → x ≠ r + 1 → U' j x = U j x)
    (t2 : U' 2 (r + 1) = nI (lastN U b)) (t3 : U' 3 (r + 1) = nI (d + 1)) (t4 : U' 4 (r + 1) = U 10 b) (t5 : U' 5 (r + 1) = v) (t6 : U' 6 (r + 1) = mk)
    (u7 : U' 7 b = nI (r + 1)) (u8 : U' 8 b = w) (uC : ∀ j c : Nat, j = 7 ∨ j = 8 → c ≠ b → U' j c = U j c) (eU : ∀ j : Nat, j = 1 ∨ 9 ≤ j → U' j = U j) : Inv (k + 1) G' P U' := by
  have hrec := inv_rec hI
  obtain ⟨_, ⟨⟨s0, s1, s2, s3, s4, s5, s6, s7⟩, hB, hM, hP, hPi, hQ9⟩, hN, hT, hE, hZ, hO, hD, hMs, hX, hQ⟩ := hI
  obtain ⟨a1, a2, a3, a4, a5, a6, a7, a8, a9, a10, a11, a12, a13⟩ := hO b hb
  have hne : ¬ (-1 : Int32) = nI b := fun q => by
    have := congrArg Int32.toInt q
    rw [im1, nI_toInt (by omega)] at this
    omega
  have hk0 : ¬ U 10 b = 0 := fun q => hne ((a8 q).symm.trans hl)
  have hk1 : 1 ≤ (U 10 b).toInt := by
    have := lv_neT hk0 (a := 0) (by decide)
    omega
  have hce := hN.2.2.2.1
  have hy : lastN U b ≤ r := by rw [hr]; exact a1.2
  rw [← hr] at hT hE hX hrec
  have hS : sameR r U U' := fun j x h1 h2 h3 => uT j x h1 h2 (by omega)
  obtain ⟨T1, T2, T3, T4⟩ := tree_add hT hS (by omega) hy t2 (by rw [t3, hd]) (by omega) t4 (a10 hk0) hk1 (by omega) (by rw [t6]; exact hmk) (fun x hx he => ((a12 hl).1 x (by omega) he).1)
  rw [← hd] at T3
  have hr' : recN U' = r + 1 := by unfold recN; rw [u07, nI_clamp (by omega)]
  have hlast : lastN U' b = r + 1 := by unfold lastN; rw [u7, nI_clamp (by omega)]
  have hlc : ∀ c : Nat, c ≠ b → lastN U' c = lastN U c := fun c hc => lastN_fr (uC 7 c (by omega) hc)
  have hlo : ∀ c : Nat, c < 4 → lastN U c ≤ r := fun c hc => by rw [hr]; exact (hO c hc).1.2
  have nA : ∀ m : Nat, m ≤ d → nodeAt U' (r + 1) m = nodeAt U (lastN U b) m := fun m hm => by
    rw [T1.at_elder (by omega) (Nat.le_refl _) (by rw [T2, hS.e_dep hy, ← hd]; exact hm), T2, hS.e_at hT hy]
  have nS : nodeAt U' (r + 1) (d + 1) = r + 1 := by rw [← T3]; exact nodeAt_self
  -- paths
  have onOld : ∀ c x : Nat, c < 4 → x ≤ r → c ≠ b → onPath U (lastN U c) x → onPath U' (lastN U' c) x := fun c x hc hx hcb h => by
    rw [hlc c hcb]
    exact (hS.onP hT (hlo c hc) hx).mpr h
  have onNew : ∀ x : Nat, x ≤ r → onPath U (lastN U b) x → onPath U' (lastN U' b) x := fun x hx h => by
    obtain ⟨p1, p2⟩ := h
    unfold onPath
    rw [hlast, T3, hS.e_dep hx]
    exact ⟨by omega, by rw [nA _ (by omega)]; exact p2⟩
  have onSelf : onPath U' (lastN U' b) (r + 1) := by
    unfold onPath
    rw [hlast]
    exact ⟨Nat.le_refl _, nodeAt_self⟩
  refine ⟨hk, ⟨?_, fun c hc => ?_, fun i hi => ?_, hP, hPi, fun j hj => ?_⟩, ?_, by rw [hr']; exact T1, fun x hx => ?_, ?_, fun c hc => ?_, fun c e hc he q ne => ?_, fun i hi => ?_, fun x hx => ?_, fun i hi => ?_⟩
  · unfold RS
    rw [eG 0 (by omega) (by omega) (by omega) (by omega), eG 26 (by omega) (by omega) (by omega) (by omega), eG 27 (by omega) (by omega) (by omega) (by omega), u0 0 (by decide), u0 1 (by decide), u0 2 (by decide), u0 3 (by decide), u0 4 (by decide), u0 5 (by decide), u0 24 (by decide), eU 1 (by omega)]
    exact ⟨s0, s1, s2, s3, s4, s5, s6, s7⟩
  · by_cases hcb : c = b
    · subst hcb
      obtain ⟨⟨r0, r4, r5, r6, r7, r8, r9⟩, r2, r3⟩ := hB c hb
      refine ⟨?_, ⟨?_, fun i hi => ?_⟩, ?_⟩
      · unfold RB
        rw [eK 0 (by decide), eK 4 (by decide), eK 5 (by decide), eK 6 (by decide), k7, eK 8 (by decide), eK 9 (by decide), eU 9 (by omega), eU 10 (by omega), eU 11 (by omega), u8, eU 12 (by omega), eU 13 (by omega)]
        exact ⟨r0, r4, r5, r6, rfl, r8, r9⟩
      · rw [kE, hlast, T3]
      · rw [hlast, T3] at hi
        rw [hlast, k8 i, k12 i]
        by_cases hid : i = d
        · subst hid
          rw [if_pos rfl, if_pos rfl, nS]
          unfold stampN
          rw [t6, t4, t5]
          exact ⟨rfl, rfl⟩
        · rw [if_neg hid, if_neg hid, nA _ (by omega)]
          have hle := hT.at_le (d := i + 1) hy
          rw [hS.e_stamp (by omega), hS 5 _ (by omega) (by omega) (by omega)]
          exact r2.2 i (by omega)
      · exact RK_fr (fun j hj => eK j (by omega)) (eG _ (by omega) (by omega) (by omega) (by omega)) (eG _ (by omega) (by omega) (by omega) (by omega)) (by rw [eU 11 (by omega)]) (by rw [eU 17 (by omega)]) (fun m _ => ⟨by rw [eU 14 (by omega)], by rw [eU 15 (by omega)], by rw [eU 16 (by omega)]⟩) r3
    · obtain ⟨r1, r2, r3⟩ := hB c hc
      have e0 := eG (2 + c) (by omega) (by omega) (by omega) (by omega)
      refine ⟨RB_fr e0 (fun j h1 h2 => ?_) r1, RL_R hS hT (hlo c hc) (uC 7 c (by omega) hcb) (by rw [eG _ (by omega) (by omega) (by omega) (by omega)]) (eG _ (by omega) (by omega) (by omega) (by omega)) (eG _ (by omega) (by omega) (by omega) (by omega)) r2, RK_fr (fun j _ => by rw [e0]) (eG _ (by omega) (by omega) (by omega) (by omega)) (eG _ (by omega) (by omega) (by omega) (by omega)) (by rw [eU 11 (by omega)]) (by rw [eU 17 (by omega)]) (fun m _ => ⟨by rw [eU 14 (by omega)], by rw [eU 15 (by omega)], by rw [eU 16 (by omega)]⟩) r3⟩
      by_cases h8 : j = 8
      · subst h8
        exact uC 8 c (by omega) hcb
      · rw [eU j (by omega)]
  · rw [u0 24 (by decide)] at hi
    have := (hMs i hi).2.2.2.2.2.2.2.2.1.2
    exact RM_R hS hT (by omega) (eG _ (by omega) (by omega) (by omega) (by omega)) (eG _ (by omega) (by omega) (by omega) (by omega)) (eG _ (by omega) (by omega) (by omega) (by omega)) (fun j _ _ => by rw [eU j (by omega)]) (hM i hi)
  · rw [eG _ (by omega) (by omega) (by omega) (by omega)]
    exact hQ9 j hj
  · obtain ⟨n1, n2, n3, n4, n5, n6, n7⟩ := hN
    unfold okN
    rw [u0 0 (by decide), u0 1 (by decide), u0 2 (by decide), u0 4 (by decide), u0 5 (by decide), u0 24 (by decide), u07, nI_toInt (by omega)]
    exact ⟨n1, n2, n3, ⟨n4.1, by omega⟩, n5, by omega, n7⟩
  · rw [hr'] at hx
    rw [u0 4 (by decide)]
    by_cases q : x = r + 1
    · rw [q, T4]
      exact a6.2
    · rw [hS.e_epo (by omega)]
      exact hE x (by omega)
  · rw [eU 1 (by omega)]
    exact hZ
  · obtain ⟨b1, b2, b3, b4, b5, b6, b7, b8, b9, b10, b11, b12, b13⟩ := hO c hc
    unfold okB
    rw [hr', eU 9 (by omega), eU 10 (by omega), eU 11 (by omega), eU 12 (by omega), eU 13 (by omega), eU 14 (by omega), eU 15 (by omega), eU 17 (by omega), u0 4 (by decide), u0 5 (by decide)]
    refine ⟨?_, ?_, b3, b4, ⟨b5.1, by omega⟩, b6, b7, b8, b9, fun q => ?_, b11, fun q => ⟨fun x hx he => ?_, (b12 q).2.1, (b12 q).2.2⟩, fun q => ⟨fun x hx he => ?_, fun z1 z2 x hx he => ?_⟩⟩
    · by_cases hcb : c = b
      · rw [hcb, hlast, u7]
        exact ⟨rfl, Nat.le_refl _⟩
      · rw [hlc c hcb, uC 7 c (by omega) hcb]
        exact ⟨b1.1, by have := hlo c hc; omega⟩
    · by_cases hcb : c = b
      · rw [hcb, u8]
        exact hw
      · rw [uC 8 c (by omega) hcb]
        exact b2
    · by_cases hcb : c = b
      · rw [hcb, hlast, T4]
        exact Int.le_refl _
      · rw [hlc c hcb, hS.e_epo (hlo c hc)]
        exact b10 q
    · by_cases hxr : x = r + 1
      · rw [hxr, T4] at he
        have hcb : c = b := by
          have h1 : U 10 b = U 10 c := Int32.toInt_inj.mp he
          have h2 := hD b c hb hc h1 hk0
          rw [hl, q] at h2
          exact ((nI_eq (by omega) (by omega)).mp h2).symm
        rw [hcb, hxr]
        exact onSelf
      · rw [hS.e_epo (by omega)] at he
        by_cases hcb : c = b
        · subst hcb
          exact onNew x (by omega) ((b12 q).1 x (by omega) he)
        · exact onOld c x hc (by omega) hcb ((b12 q).1 x (by omega) he)
    · by_cases hxr : x = r + 1
      · rw [hxr, T4] at he
        have h1 := a9 (Int32.toInt_inj.mp he)
        rw [hl, q] at h1
        have hcb : c = b := ((nI_eq (by omega) (by omega)).mp h1).symm
        rw [hcb, hxr]
        exact onSelf
      · rw [hS.e_epo (by omega)] at he
        by_cases hcb : c = b
        · subst hcb
          exact onNew x (by omega) ((b13 q).1 x (by omega) he)
        · exact onOld c x hc (by omega) hcb ((b13 q).1 x (by omega) he)
    · by_cases hxr : x = r + 1
      · rw [hxr, T4] at he
        have h1 := a9 (Int32.toInt_inj.mp he)
        rw [hl, q] at h1
        have hcb : c = b := ((nI_eq (by omega) (by omega)).mp h1).symm
        subst hcb
        exact z2 (Int32.toInt_inj.mp he)
      · rw [hS.e_epo (by omega)] at he
        exact (b13 q).2 z1 z2 x (by omega) he
  · rw [eU 10 (by omega)] at q ne
    rw [eU 11 (by omega)]
    exact hD c e hc he q ne
  · rw [u0 24 (by decide)] at hi
    obtain ⟨m1, m2, m3, m4, m5, m6, m7, m8, m9, m10, m11⟩ := hMs i hi
    have hld : (U 25 i).toNatClampNeg ≤ r := by omega
    have hfol : folN U i < 4 := by
      unfold folN
      split
      · exact vp_lt m2
      · exact vp_lt m3
    have e0 : folN U' i = folN U i := folN_eq (fun j _ _ => by rw [eU j (by omega)])
    have hlv : live U' i → live U i ∧ folN U i ≠ b := fun q => by
      unfold live at q ⊢
      rw [e0, eU 13 (by omega), eU 12 (by omega), eU 10 (by omega), eU 22 (by omega), eU 21 (by omega)] at q
      refine ⟨q, fun z => ?_⟩
      rw [z] at q
      exact (a11 q.1).2.1 hl
    have hle := hT.at_le (d := dep U (U 25 i).toNatClampNeg - (U 23 i).toNatClampNeg) hld
    unfold okM
    rw [e0, hr', eU 18 (by omega), eU 19 (by omega), eU 20 (by omega), eU 21 (by omega), eU 22 (by omega), eU 23 (by omega), eU 24 (by omega), eU 25 (by omega), eU 12 (by omega), u0 4 (by decide), hS.e_dep hld, hS.e_epo hld, hS.e_at hT hld]
    refine ⟨m1, m2, m3, m4, m5, m6, m7, m8, ⟨m9.1, by omega⟩, fun q => ⟨(m10 q).1, fun z => ?_⟩, fun q => ⟨(m11 q).1, (m11 q).2.1, (m11 q).2.2.1, fun z => ?_⟩⟩
    · obtain ⟨z1, z2⟩ := hlv z
      have hlf := hlo _ hfol
      rw [hlc _ z2, hS 3 _ (by omega) (by omega) hlf, hS 4 _ (by omega) (by omega) hlf]
      exact (m10 q).2 z1
    · obtain ⟨z1, z2⟩ := hlv z
      rw [hlc _ z2]
      exact (m11 q).2.2.2 z1
  · rw [hr'] at hx
    rw [uT 2 x (by omega) (by omega) (by omega), uT 3 x (by omega) (by omega) (by omega)]
    exact hX x (by omega)
  · rw [eU 20 (by omega), eU 19 (by omega), eU 23 (by omega), eU 25 (by omega)]
    exact hQ i hi
end APP
