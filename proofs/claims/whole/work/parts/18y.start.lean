/-! The start. -/
theorem near_eq {x h : Int32} (h1 : 1 ≤ h.toInt) : f_I_nearest x 1 h = (if 1 ≤ x then (if x ≤ h then x else h) else 1) := by
  unfold f_I_nearest
  by_cases a : x < h
  · rw [if_pos a]
    by_cases b : 1 < x
    · rw [if_pos b, if_pos (by rw [i_le]; rw [i_lt] at b; omega), if_pos (by rw [i_le]; rw [i_lt] at a; omega)]
    · rw [if_neg b]
      by_cases c : 1 ≤ x
      · rw [if_pos c, if_pos (by rw [i_le]; rw [i_lt] at a; omega)]
        apply Int32.toInt_inj.mp
        rw [i_lt] at b
        rw [i_le] at c
        omega
      · rw [if_neg c]
  · rw [if_neg a]
    by_cases b : 1 < h
    · rw [if_pos b, if_pos (by rw [i_le]; rw [i_lt] at a; rw [i1]; omega)]
      by_cases c : x ≤ h
      · rw [if_pos c]
        apply Int32.toInt_inj.mp
        rw [i_le] at c
        rw [i_lt] at a
        omega
      · rw [if_neg c]
    · have e : h = 1 := Int32.toInt_inj.mp (by rw [i_lt, i1] at b; rw [i1]; omega)
      subst e
      rw [if_neg b]
      by_cases c : 1 ≤ x
      · rw [if_pos c]
        by_cases d : x ≤ 1
        · rw [if_pos d]
          apply Int32.toInt_inj.mp
          rw [i_le] at c d
          omega
        · rw [if_neg d]
      · rw [if_neg c]
theorem near_in {x h : Int32} {n : Int} (h1 : 1 ≤ n) (hn : h.toInt = n) : 1 ≤ (if 1 ≤ x then (if x ≤ h then x else h) else (1 : Int32)).toInt ∧ (if 1 ≤ x then (if x ≤ h then x else h) else (1 : Int32)).toInt ≤ n := by
  split
  · rename_i a
    rw [i_le, i1] at a
    split
    · rename_i b
      rw [i_le, hn] at b
      exact ⟨a, b⟩
    · rw [hn]; omega
  · rw [i1]; omega
theorem up4 : ∀ j : Nat, j < 4 → va_up (va_up (va_up (va_up (fun _ => (0 : Int32)) 0 1) 1 1) 2 1) 3 1 j = 1 := fun j hj => match j, hj with
  | 0, _ => rfl
  | 1, _ => rfl
  | 2, _ => rfl
  | 3, _ => rfl
  | q + 4, h => absurd h (by omega)
theorem bit15 : ∀ m, m < 4 → Nat.testBit 15 m = true := by decide
theorem inv_0 (x1 x2 x3 : Int32) : Inv 0 (gCi x1 x2 x3) (fun j => j) (f_M_takeOver 0 (gMi x1 x2 x3)) := by
  have hV := to_loop (G := gMi x1 x2 x3) (c := 0) (by decide) 5 0 (g2 (gMi x1 x2 x3) 17 0 ((gMi x1 x2 x3) 3 ((gMi x1 x2 x3) 7 0).toNatClampNeg)) rfl (by omega)
  rw [nI_0] at hV
  have eV : f_M_takeOver 0 (gMi x1 x2 x3) = f_M_takeOver_19 0 (gMi x1 x2 x3) 5 0 (g2 (gMi x1 x2 x3) 17 0 ((gMi x1 x2 x3) 3 ((gMi x1 x2 x3) 7 0).toNatClampNeg)) := rfl
  rw [eV]
  generalize f_M_takeOver_19 0 (gMi x1 x2 x3) 5 0 (g2 (gMi x1 x2 x3) 17 0 ((gMi x1 x2 x3) 3 ((gMi x1 x2 x3) 7 0).toNatClampNeg)) = V at hV
  obtain ⟨v1, v2, v3⟩ := hV
  have hz : ∀ j : Nat, (j = 2 ∨ j = 3 ∨ j = 4 ∨ j = 5 ∨ j = 6 ∨ j = 7 ∨ j = 8 ∨ j = 11 ∨ j = 12 ∨ j = 13 ∨ j = 19 ∨ j = 20 ∨ j = 23 ∨ j = 25) → V j = fun _ => 0 := by
    intro j hj
    rcases hj with e | e | e | e | e | e | e | e | e | e | e | e | e | e <;> subst e <;> (rw [v1 _ (by decide) (by decide) (by decide), g2_ne _ _ _ (by decide)]; rfl)
  have h0 : ∀ j : Nat, V 0 j = gMi x1 x2 x3 0 j := fun j => by rw [v1 0 (by decide) (by decide) (by decide), g2_ne _ _ _ (by decide)]
  have hzb : ∀ j q : Nat, (j = 2 ∨ j = 3 ∨ j = 4 ∨ j = 5 ∨ j = 6 ∨ j = 7 ∨ j = 8 ∨ j = 11 ∨ j = 12 ∨ j = 13 ∨ j = 19 ∨ j = 20 ∨ j = 23 ∨ j = 25) → V j q = 0 := fun j q hj => by rw [hz j hj]
  have l0 : V 0 0 = (if 1 ≤ x1 then (if x1 ≤ 20 then x1 else 20) else 1) := by rw [h0]; rfl
  have l1 : V 0 1 = (if 1 ≤ x2 then (if x2 ≤ 3 then x2 else 3) else 1) := by rw [h0]; rfl
  have l2 : V 0 2 = (if 1 ≤ x3 then (if x3 ≤ 3 then x3 else 3) else 1) := by rw [h0]; rfl
  have l4 : V 0 4 = 1 := by rw [h0]; rfl
  have l5 : V 0 5 = 0 := by rw [h0]; rfl
  have l7 : V 0 7 = 0 := by rw [h0]; rfl
  have l24 : V 0 24 = 0 := by rw [h0]; rfl
  have hU1 : ∀ j : Nat, j < 4 → V 1 j = 1 := fun j hj => by rw [v1 1 (by decide) (by decide) (by decide), g2_ne _ _ _ (by decide)]; exact up4 j hj
  have hU9 : ∀ j : Nat, j < 4 → V 9 j = 1 := fun j hj => by rw [v1 9 (by decide) (by decide) (by decide), g2_ne _ _ _ (by decide)]; exact up4 j hj
  have hU10 : ∀ j : Nat, j < 4 → V 10 j = 1 := fun j hj => by rw [v1 10 (by decide) (by decide) (by decide), g2_ne _ _ _ (by decide)]; exact up4 j hj
  have h17 : V 17 0 = 0 := by rw [v1 17 (by decide) (by decide) (by decide), g2_at]; rfl
  have h14 : ∀ m : Nat, m < 4 → V 14 (4 * 0 + m) = 1 := fun m hm => by rw [(v3 m (by omega) hm).1, g2_ne _ _ _ (by decide)]; exact up4 m hm
  have h15 : ∀ m : Nat, m < 4 → V 15 (4 * 0 + m) = -1 := fun m hm => (v3 m (by omega) hm).2.1
  have h16 : ∀ m : Nat, m < 4 → V 16 (4 * 0 + m) = 0 := fun m hm => by rw [(v3 m (by omega) hm).2.2, g2_ne _ _ _ (by decide)]; rfl
  have hrec : recN V = 0 := by unfold recN; rw [h0]; rfl
  have hlast : ∀ b : Nat, lastN V b = 0 := fun b => by unfold lastN; rw [hz 7 (by omega)]; rfl
  have hdep : ∀ x : Nat, dep V x = 0 := fun x => by unfold dep; rw [hz 3 (by omega)]; rfl
  have hepo : ∀ x : Nat, epo V x = 0 := fun x => by unfold epo; rw [hz 4 (by omega), i0]
  have hcnt : (V 0 24).toNatClampNeg = 0 := by rw [h0]; rfl
  have b0 : ∀ b : Nat, b < 4 → (0 : Int32) = nI b → b = 0 := fun b hb e => by
    have := congrArg Int32.toInt e
    rw [i0, nI_toInt (by omega)] at this
    omega
  have n01 : ¬ (1 : Int32) = 0 := one_ne0
  have all15 : ∀ f : Nat → Int32, (∀ m : Nat, m < 4 → f m = 1) → isSet 15 f := fun f hf => ⟨15, by decide, by decide, fun m hm => by rw [hf m hm, bit15 m hm, if_pos rfl]⟩
  refine ⟨by omega, ⟨?_, fun b hb => ?_, fun i hi => ?_, fun i hi => hi, fun i j _ _ e => e, fun j hj => ?_⟩, ?_, ?_, fun x hx => ?_, fun j hj => ?_, fun b hb => ?_, fun b c hb hc e ne => ?_, fun i hi => ?_, fun x hx => ?_, fun i hi => ?_⟩
  · refine ⟨?_, ?_, ?_, ?_, ?_, ?_, ?_, all15 _ hU1⟩
    · rw [h0]; exact near_eq (by decide)
    · rw [h0]; exact near_eq (by decide)
    · rw [h0]; exact near_eq (by decide)
    · rw [h0]; rfl
    · rw [h0]; rfl
    · rw [h0]; rfl
    · rw [h0]; rfl
  · refine ⟨?_, ⟨?_, fun i hi => ?_⟩, fun q => ?_⟩
    · unfold RB
      rw [hU9 b hb, hU10 b hb, hzb 11 b (by omega), hzb 8 b (by omega), hzb 12 b (by omega), hzb 13 b (by omega)]
      exact match b, hb with
        | 0, _ => ⟨show (0 : Int32) = nI 0 by decide, rfl, rfl, rfl, rfl, rfl, rfl⟩
        | 1, _ => ⟨show (1 : Int32) = nI 1 by decide, rfl, rfl, rfl, rfl, rfl, rfl⟩
        | 2, _ => ⟨show (2 : Int32) = nI 2 by decide, rfl, rfl, rfl, rfl, rfl, rfl⟩
        | 3, _ => ⟨show (3 : Int32) = nI 3 by decide, rfl, rfl, rfl, rfl, rfl, rfl⟩
        | q + 4, h => absurd h (by omega)
    · rw [hlast, hdep]
      exact match b, hb with
        | 0, _ => rfl
        | 1, _ => rfl
        | 2, _ => rfl
        | 3, _ => rfl
        | q + 4, h => absurd h (by omega)
    · rw [hlast, hdep] at hi
      omega
    · rw [hzb 11 b (by omega)] at q
      have hb0 := b0 b hb q
      subst hb0
      refine ⟨?_, all15 _ h14, fun m hm => ?_, fun m hm => ?_⟩
      · rw [h17]; rfl
      · rw [h15 m hm]
        show f_Arr_fill 0 4 (-1) (fun _ _ => 0) 0 m = -1
        exact fill_at (by decide) hm
      · rw [h16 m hm]; rfl
  · rw [hcnt] at hi
    omega
  · have e : gCi x1 x2 x3 (29 + j) = fun _ => 0 := by
      unfold gCi
      rw [if_neg (by omega), if_neg (by omega), if_neg (by omega), if_neg (by omega), if_neg (by omega)]
    rw [e]
    exact ⟨in0_4, in0_4⟩
  · unfold okN
    rw [l0, l1, l2, l4, l5, l7, l24]
    exact ⟨near_in (by decide) (by decide), near_in (by decide) (by decide), near_in (by decide) (by decide), ⟨by decide, by decide⟩, ⟨by decide, by decide⟩, ⟨by decide, by decide⟩, ⟨by decide, by decide⟩⟩
  · rw [hrec]
    refine ⟨by omega, ⟨by rw [hz 2 (by omega)], by rw [hz 3 (by omega)], by rw [hz 4 (by omega)], by rw [hz 5 (by omega)], by rw [hz 6 (by omega)]⟩, fun x a1 a2 => by omega, fun x y a1 a2 _ _ => by omega⟩
  · rw [hepo, l4]
    decide
  · exact Or.inr (hU1 j hj)
  · unfold okB onPath
    rw [hlast, hrec, hepo, hU9 b hb, hU10 b hb, hzb 7 b (by omega), hzb 8 b (by omega), hzb 11 b (by omega), hzb 12 b (by omega), hzb 13 b (by omega), l4, l5]
    refine ⟨⟨by decide, Nat.le_refl _⟩, ⟨by decide, by decide⟩, Or.inr rfl, Or.inl rfl, ⟨by decide, by decide⟩, ⟨by decide, by decide⟩, ⟨by decide, by decide⟩, fun q => absurd q n01, fun _ => rfl, fun _ => by decide, fun q => absurd q (by decide), fun q => ⟨fun x _ he => ?_, ?_, fun m hm => ?_⟩, fun _ => ⟨fun x _ he => ?_, fun _ z => absurd rfl z⟩⟩
    · rw [hepo, i1] at he
      omega
    · have hb0 := b0 b hb q
      subst hb0
      rw [h17]
      exact ⟨by decide, by decide⟩
    · have hb0 := b0 b hb q
      subst hb0
      rw [h15 m hm, h14 m hm]
      exact ⟨⟨by decide, by decide⟩, Or.inr rfl⟩
    · rw [hepo] at he
      exact absurd he (by decide)
  · rw [hzb 11 b (by omega), hzb 11 c (by omega)]
  · rw [hcnt] at hi
    omega
  · rw [hz 2 (by omega), hz 3 (by omega)]
    exact ⟨rfl, rfl⟩
  · rw [hzb 20 i (by omega), hzb 19 i (by omega), hzb 23 i (by omega), hzb 25 i (by omega)]
    exact ⟨in0_4, in0_4, ⟨by decide, by decide⟩, in0_520⟩
