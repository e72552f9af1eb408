/-! Calls that change nothing. -/
section READ
variable {k : Nat} {G U : Nat → Nat → Int32} {P : Nat → Nat}
def bs (x1 x2 : Int32) (G : Nat → Nat → Int32) (m : Int32) : Int32 := if x1 = 0 then G 14 ((4 * x2) + m).toNatClampNeg else G 1 m.toNatClampNeg
theorem bits_step {x1 x2 v m : Int32} {G : Nat → Nat → Int32} {f : Nat} (hm : ¬ m < 0) : f_M_bits_5 x1 x2 G (f + 1) v m = f_M_bits_5 x1 x2 G f (2 * v + (if bs x1 x2 G m = 0 then 0 else 1)) (m + (-1)) := by
  rw [f_M_bits_5, if_neg hm]
  simp only [jn, bs]
  by_cases h1 : x1 = 0
  · simp only [if_pos h1]
    split <;> rfl
  · simp only [if_neg h1]
    split <;> rfl
theorem bits16 : ∀ k, k < 16 → (2 * (2 * (2 * (2 * 0 + (if Nat.testBit k 3 then 1 else 0)) + (if Nat.testBit k 2 then 1 else 0)) + (if Nat.testBit k 1 then 1 else 0)) + (if Nat.testBit k 0 then 1 else 0) : Int32) = nI k := by decide +kernel
theorem bits_eq {x1 x2 : Int32} {G : Nat → Nat → Int32} {k : Nat} (hk : k < 16) (h : ∀ m : Nat, m < 4 → bs x1 x2 G (nI m) = if k.testBit m then 1 else 0) : f_M_bits x1 x2 G = nI k := by
  have t : ∀ m : Nat, m < 4 → (if bs x1 x2 G (nI m) = 0 then (0 : Int32) else 1) = if k.testBit m then 1 else 0 := fun m hm => by
    rw [h m hm]
    cases k.testBit m <;> decide
  have t3 := t 3 (by decide)
  have t2 := t 2 (by decide)
  have t1 := t 1 (by decide)
  have t0 := t 0 (by decide)
  rw [show nI 3 = (3 : Int32) by decide] at t3
  rw [show nI 2 = (2 : Int32) by decide] at t2
  rw [show nI 1 = (1 : Int32) by decide] at t1
  rw [show nI 0 = (0 : Int32) by decide] at t0
  unfold f_M_bits
  rw [bits_step (by decide), show (3 : Int32) + (-1) = 2 by decide, bits_step (by decide), show (2 : Int32) + (-1) = 1 by decide, bits_step (by decide), show (1 : Int32) + (-1) = 0 by decide, bits_step (by decide), show (0 : Int32) + (-1) = -1 by decide, f_M_bits_5, if_pos (by decide), t3, t2, t1, t0]
  exact bits16 k hk
theorem bits_isr {x : Int32} (h : isSet x (U 1)) : f_M_bits 1 0 U = x := by
  obtain ⟨k, hk, rfl, h⟩ := h
  refine bits_eq hk (fun m hm => ?_)
  unfold bs
  rw [if_neg one_ne0, cl4 hm]
  exact h m hm
theorem at4 {b m : Nat} (hb : b < 4) (hm : m < 4) : (4 * nI b + nI m).toNatClampNeg = 4 * b + m := by
  rw [show (4 : Int32) = nI 4 by decide, pk_mul, nI_add, nI_clamp (by omega)]
theorem bits_sync {x : Int32} {b : Nat} (hb : b < 4) (h : isSet x (fun m => U 14 (4 * b + m))) : f_M_bits 0 (nI b) U = x := by
  obtain ⟨k, hk, rfl, h⟩ := h
  refine bits_eq hk (fun m hm => ?_)
  unfold bs
  rw [if_pos rfl, at4 hb hm]
  exact h m hm
theorem sim_controller : Sim_controller := by
  intro k G P U x1 x2 hk hI
  refine ⟨?_, Inv_same hk hI⟩
  obtain ⟨s0, s1, s2, s3, s4, s5, s6, s7⟩ := hI.2.1.1
  unfold f_I_controller f_M_controller
  rw [s4, s5, bits_isr s7]
theorem sim_broker : Sim_broker := by
  intro k G P U x1 x2 hk hI
  refine ⟨?_, Inv_same hk hI⟩
  unfold f_I_broker f_M_broker
  by_cases h : f_I_isBroker x1 = 0
  · rw [if_pos h, if_pos (show f_M_isBroker x1 = 0 from h)]
  · rw [if_neg h, if_neg (show ¬ f_M_isBroker x1 = 0 from h)]
    obtain ⟨b, hb, rfl⟩ := brk h
    obtain ⟨⟨r0, r4, r5, r6, r7, r8, r9⟩, r2, r3⟩ := hI.2.1.2.1 b hb
    rw [cl4 hb]
    unfold f_B_fact
    have e3 : (if f_B_leads (2 + b) G = 0 then 0 else G (2 + b) 11) = (if f_M_leads (nI b) U = 0 then 0 else f_M_bits 0 (nI b) U) := by
      rw [leads_eq hI hb]
      by_cases hl : f_B_leads (2 + b) G = 0
      · rw [if_pos hl, if_pos hl]
      · rw [if_neg hl, if_neg hl]
        rw [← leads_eq hI hb] at hl
        obtain ⟨c, hc, e, _, h11⟩ := isLd_b hl
        have : c = b := ((nI_eq (by omega) (by omega)).mp e).symm
        subst this
        rw [bits_sync hb (r3 h11).2.1]
    rw [e3, r4, r5, r6, r7, r8, r2.1, hI.2.2.2.2.2.2.1 b hb |>.1.1, nI_clamp (by have := (hI.2.2.2.2.2.2.1 b hb).1.2; have := inv_rec hI; omega), hI.2.2.2.1.dep_n (hI.2.2.2.2.2.2.1 b hb).1.2]
theorem has_msg (hI : Inv k G P U) {x : Int32} : f_H_has x G = f_M_isMessage x U := by
  unfold f_H_has f_M_isMessage
  rw [hI.2.1.1.2.2.2.2.2.2.1]
theorem msg_n (hI : Inv k G P U) {x : Int32} (h : ¬ f_M_isMessage x U = 0) : ∃ i : Nat, i < (U 0 24).toNatClampNeg ∧ i < 8 ∧ x = nI i := by
  unfold f_M_isMessage at h
  have hc := inv_K hI
  by_cases h1 : x < 0
  · rw [if_pos h1] at h; exact absurd rfl h
  · rw [if_neg h1] at h
    by_cases h2 : U 0 24 ≤ x
    · rw [if_pos h2] at h; exact absurd rfl h
    · obtain ⟨j, hj, rfl⟩ := nI_of h1
      rw [i_le, nI_toInt (by omega)] at h2
      have h3 := cl_of hc.1
      have h4 := hc.2
      exact ⟨j, by omega, by omega, rfl⟩
theorem sim_message : Sim_message := by
  intro k G P U x1 x2 hk hI
  refine ⟨?_, Inv_same hk hI⟩
  unfold f_I_message f_M_message
  rw [has_msg hI]
  by_cases h : f_M_isMessage x1 U = 0
  · rw [if_pos h, if_pos h]
  · rw [if_neg h, if_neg h]
    obtain ⟨i, hi, hi8, rfl⟩ := msg_n hI h
    have hw := (hI.2.1.2.2.1 i hi).1
    rw [nI_clamp (by omega)]
    unfold f_G_word
    rw [hw 0 (by decide), hw 1 (by decide), hw 2 (by decide), hw 3 (by decide), hw 4 (by decide), hw 5 (by decide), hw 6 (by decide)]
theorem upTo_eq (hI : Inv k G P U) {b : Nat} (hb : b < 4) {n : Int32} (hn : 0 ≤ n.toInt) : f_M_upTo (nI b) n U = nI (if (dep U (lastN U b) : Int) ≤ n.toInt then lastN U b else nodeAt U (lastN U b) n.toNatClampNeg) := by
  obtain ⟨h1, h2⟩ := (hI.2.2.2.2.2.2.1 b hb).1
  have hr := inv_rec hI
  unfold f_M_upTo
  rw [cl4 hb, h1]
  exact upTo_7 hI.2.2.2.1 hn 521 _ h2 (by omega)
theorem upTo_n (hI : Inv k G P U) {b d : Nat} (hb : b < 4) (hd : d ≤ dep U (lastN U b)) : f_M_upTo (nI b) (nI d) U = nI (nodeAt U (lastN U b) d) := by
  have h40 := inv_dep hI hb
  rw [upTo_eq hI hb (by rw [nI_toInt (by omega)]; omega), nI_toInt (by omega), nI_clamp (by omega)]
  by_cases h : (dep U (lastN U b) : Int) ≤ (d : Int)
  · rw [if_pos h]
    have : d = dep U (lastN U b) := by omega
    rw [this, nodeAt_self]
  · rw [if_neg h]
/-- the record at an offset, on both sides -/
theorem rec_at (hI : Inv k G P U) {b : Nat} (hb : b < 4) {x : Int32} : (f_L_has (2 + b + 4) x G = 0 ∧ f_M_recordAt (nI b) x U = 0) ∨ ∃ i : Nat, i < dep U (lastN U b) ∧ x = nI i ∧ f_L_has (2 + b + 4) x G = 1 ∧ f_M_recordAt (nI b) x U = nI (nodeAt U (lastN U b) (i + 1)) ∧ 0 < nodeAt U (lastN U b) (i + 1) ∧ nodeAt U (lastN U b) (i + 1) ≤ recN U ∧ G (2 + b + 8) i = stampN U (nodeAt U (lastN U b) (i + 1)) ∧ G (2 + b + 12) i = U 5 (nodeAt U (lastN U b) (i + 1)) := by
  have h40 := inv_dep hI hb
  obtain ⟨r1, r2⟩ := (hI.2.1.2.1 b hb).2.1
  obtain ⟨l1, l2⟩ := (hI.2.2.2.2.2.2.1 b hb).1
  have hT := hI.2.2.2.1
  have hr := inv_rec hI
  unfold f_L_has f_M_recordAt
  rw [sBM_of hb, if_neg one_ne0, r1, cl4 hb, l1, nI_clamp (by omega), hT.dep_n l2]
  by_cases h0 : x < 0
  · left
    rw [if_pos h0, if_neg (by rw [i_le, i0]; rw [i_lt, i0] at h0; omega)]
    exact ⟨rfl, rfl⟩
  · obtain ⟨i, hi, rfl⟩ := nI_of h0
    rw [if_neg h0, if_pos (show (0 : Int32) ≤ nI i from nI_pos' hi)]
    by_cases h1 : dep U (lastN U b) ≤ i
    · left
      have : nI (dep U (lastN U b)) ≤ nI i := nI_le h1 hi
      rw [if_pos this, if_pos this]
      exact ⟨rfl, rfl⟩
    · right
      have : ¬ nI (dep U (lastN U b)) ≤ nI i := nI_ge (by omega) (by omega)
      rw [if_neg this, if_neg this, nI_1, upTo_n hI hb (by omega)]
      have hd := hT.at_dep l2 (show i + 1 ≤ dep U (lastN U b) by omega)
      have hle := hT.at_le (d := i + 1) l2
      exact ⟨i, by omega, rfl, rfl, rfl, hT.pos (by omega) (by omega), by omega, (r2 i (by omega)).1, (r2 i (by omega)).2⟩
theorem sim_epochAt : Sim_epochAt := by
  intro k G P U x1 x2 hk hI
  refine ⟨?_, Inv_same hk hI⟩
  have hT := hI.2.2.2.1
  unfold f_I_epochAt f_M_epochAt
  by_cases h : f_I_isBroker x1 = 0
  · have e : f_M_recordAt x1 x2 U = 0 := by unfold f_M_recordAt; rw [if_pos (show f_M_isBroker x1 = 0 from h)]
    rw [if_pos h, e, show (0 : Int32).toNatClampNeg = 0 by decide, hT.2.1.2.2.2.2, if_pos rfl, hT.2.1.2.2.1]
  · rw [if_neg h]
    obtain ⟨b, hb, rfl⟩ := brk h
    rw [cl4 hb]
    unfold f_L_stampOf
    have hr := inv_rec hI
    rcases rec_at hI hb (x := x2) with ⟨e1, e2⟩ | ⟨i, hi, rfl, e1, e2, n1, n2, e3, _⟩
    · rw [if_pos e1, e2, show (0 : Int32).toNatClampNeg = 0 by decide, hT.2.1.2.2.2.2, if_pos rfl, hT.2.1.2.2.1]
    · have h40 := inv_dep hI hb
      rw [e1, if_neg one_ne0, e2, nI_clamp (by omega), nI_clamp (by omega)]
      exact e3
theorem sim_valueAt : Sim_valueAt := by
  intro k G P U x1 x2 hk hI
  refine ⟨?_, Inv_same hk hI⟩
  have hT := hI.2.2.2.1
  unfold f_I_valueAt f_M_valueAt
  by_cases h : f_I_isBroker x1 = 0
  · have e : f_M_recordAt x1 x2 U = 0 := by unfold f_M_recordAt; rw [if_pos (show f_M_isBroker x1 = 0 from h)]
    rw [if_pos h, e, show (0 : Int32).toNatClampNeg = 0 by decide, hT.2.1.2.2.2.1]
  · rw [if_neg h]
    obtain ⟨b, hb, rfl⟩ := brk h
    rw [cl4 hb]
    unfold f_L_valueOf
    have hr := inv_rec hI
    rcases rec_at hI hb (x := x2) with ⟨e1, e2⟩ | ⟨i, hi, rfl, e1, e2, n1, n2, _, e3⟩
    · rw [if_pos e1, e2, show (0 : Int32).toNatClampNeg = 0 by decide, hT.2.1.2.2.2.1]
    · have h40 := inv_dep hI hb
      rw [e1, if_neg one_ne0, e2, nI_clamp (by omega), nI_clamp (by omega)]
      exact e3
/-- a stamp is negative just where the record is a mark -/
theorem stamp_mark (hT : Tree U (recN U)) {x : Nat} (h0 : 0 < x) (hx : x ≤ recN U) : (0 ≤ stampN U x) ↔ U 6 x = 0 := by
  obtain ⟨_, _, _, _, _, e1, e2, e3⟩ := hT.2.2.1 x h0 hx
  unfold epo at e1 e2
  unfold stampN
  by_cases h : U 6 x = 0
  · rw [if_pos h, i_le, i0]
    exact ⟨fun _ => h, fun _ => by omega⟩
  · rw [if_neg h, i_le, i0]
    refine ⟨fun q => ?_, fun q => absurd q h⟩
    have e : (-(U 4 x)).toInt = -(U 4 x).toInt := by
      rw [← Int32.zero_sub, i_sub (by rw [i0]; omega) (by rw [i0]; omega), i0]
      omega
    rw [e] at q
    omega
theorem sim_readable : Sim_readable := by
  intro k G P U x1 x2 hk hI
  refine ⟨?_, Inv_same hk hI⟩
  have hT := hI.2.2.2.1
  have hr := inv_rec hI
  unfold f_I_readable f_M_readable
  rw [isLd_eq hI]
  by_cases h : f_M_leads x1 U = 0
  · rw [if_pos h, if_pos h]
  · rw [if_neg h, if_neg h]
    obtain ⟨b, hb, rfl, _, _⟩ := isLd_b h
    have r7 := (hI.2.1.2.1 b hb).1.2.2.2.2.1
    rw [cl4 hb, r7]
    rcases rec_at hI hb (x := x2) with ⟨e1, e2⟩ | ⟨i, hi, rfl, e1, e2, n1, n2, e3, _⟩
    · rw [if_pos e1, if_pos e2]
      split <;> rfl
    · have h40 := inv_dep hI hb
      have hz : ¬ nI (nodeAt U (lastN U b) (i + 1)) = 0 := nI_ne0 n1 (by omega)
      rw [e1, if_neg one_ne0, e2, if_neg hz, nI_clamp (by omega)]
      unfold f_L_isMark f_L_stampOf
      rw [e1, if_neg one_ne0, nI_clamp (by omega), show 2 + b + 4 + 4 = 2 + b + 8 from rfl, e3]
      by_cases q : U 8 b ≤ nI i
      · have q2 : ¬ nI i < U 8 b := by rw [i_lt]; rw [i_le] at q; omega
        rw [if_pos q, if_neg q2]
      · have q2 : nI i < U 8 b := by rw [i_lt]; rw [i_le] at q; omega
        rw [if_neg q, if_pos q2]
        by_cases m : U 6 (nodeAt U (lastN U b) (i + 1)) = 0
        · rw [if_pos ((stamp_mark hT n1 n2).mpr m), if_pos rfl, if_pos m]
        · rw [if_neg (fun z => m ((stamp_mark hT n1 n2).mp z)), if_neg one_ne0, if_neg m]
theorem at_elder1 (hT : Tree U (recN U)) {x d : Nat} (hx : x ≤ recN U) (hd : d + 1 ≤ dep U x) : elder U (nodeAt U x (d + 1)) = nodeAt U x d := by
  have h1 := hT.at_dep hx hd
  rw [← hT.at_at hx hd (show d ≤ d + 1 by omega)]
  show _ = goUp U (dep U (nodeAt U x (d + 1)) - d) _
  rw [h1, show d + 1 - d = 1 by omega]
  rfl
theorem comm_loop (hI : Inv k G P U) {b : Nat} (hb : b < 4) : ∀ (d f e : Nat), d ≤ 41 → d < f → nodeAt U (lastN U b) (min d (dep U (lastN U b))) < e → f_I_committed_32 (nI b) G f (nI d - 1) = f_M_committed_22 (nI b) U e (nI (nodeAt U (lastN U b) (min d (dep U (lastN U b))))) := by
  have hT := hI.2.2.2.1
  have hr := inv_rec hI
  have h40 := inv_dep hI hb
  obtain ⟨l1, l2⟩ := (hI.2.2.2.2.2.2.1 b hb).1
  intro d
  induction d with
  | zero =>
    intro f e _ hf he
    obtain ⟨f, rfl⟩ : ∃ j, f = j + 1 := ⟨f - 1, by omega⟩
    obtain ⟨e, rfl⟩ : ∃ j, e = j + 1 := ⟨e - 1, by omega⟩
    rw [Nat.zero_min, hT.at_0 l2, f_I_committed_32, f_M_committed_22, if_pos (by decide), if_pos (by decide), if_pos (by decide)]
  | succ d ih =>
    intro f e hd hf he
    obtain ⟨f, rfl⟩ : ∃ j, f = j + 1 := ⟨f - 1, by omega⟩
    have hv : nI (d + 1) - 1 = nI d := nI_pred d
    rw [hv, f_I_committed_32, if_neg (nI_pos (by omega)), cl4 hb]
    unfold f_L_isMark f_L_stampOf f_L_valueOf
    rcases rec_at hI hb (x := nI d) with ⟨e1, e2⟩ | ⟨i, hi, ei, e1, e2, n1, n2, e3, e4⟩
    · rw [e1, if_pos rfl, if_pos (by decide), ← Int32.sub_eq_add_neg]
      have hge : dep U (lastN U b) ≤ d := by
        by_cases q : dep U (lastN U b) ≤ d
        · exact q
        · exfalso
          unfold f_L_has at e1
          rw [if_neg (nI_pos (by omega)), (hI.2.1.2.1 b hb).2.1.1, if_neg (nI_ge (by omega) (by omega))] at e1
          exact one_ne0 e1
      have em : min (d + 1) (dep U (lastN U b)) = min d (dep U (lastN U b)) := by omega
      rw [em] at he ⊢
      exact ih f e (by omega) (by omega) he
    · have : i = d := (nI_eq (by omega) (by omega)).mp ei.symm
      subst this
      have em : min (i + 1) (dep U (lastN U b)) = i + 1 := by omega
      have em2 : min i (dep U (lastN U b)) = i := by omega
      rw [em] at he ⊢
      obtain ⟨e, rfl⟩ : ∃ j, e = j + 1 := ⟨e - 1, by omega⟩
      have hz : ¬ nI (nodeAt U (lastN U b) (i + 1)) ≤ 0 := nI_nle n1 (by omega)
      rw [e1, if_neg one_ne0, if_neg one_ne0, nI_clamp (by omega), show 2 + b + 4 + 4 = 2 + b + 8 from rfl, show 2 + b + 4 + 8 = 2 + b + 12 from rfl, e3, e4, f_M_committed_22, if_neg hz, if_neg hz, nI_clamp (by omega)]
      by_cases m : U 6 (nodeAt U (lastN U b) (i + 1)) = 0
      · rw [if_pos ((stamp_mark hT n1 n2).mpr m), if_pos rfl, if_pos m, ← Int32.sub_eq_add_neg, (hT.2.2.1 _ n1 n2).2.1, at_elder1 hT l2 (by omega)]
        have hlt := hT.elder_lt n1 n2
        rw [at_elder1 hT l2 (by omega)] at hlt
        have := ih f e (by omega) (by omega) (by rw [em2]; omega)
        rw [em2] at this
        exact this
      · rw [if_neg (fun z => m ((stamp_mark hT n1 n2).mp z)), if_neg one_ne0, if_neg m]
theorem sim_committed : Sim_committed := by
  intro k G P U x1 x2 hk hI
  refine ⟨?_, Inv_same hk hI⟩
  have hr := inv_rec hI
  have hT := hI.2.2.2.1
  unfold f_I_committed f_M_committed
  rw [isLd_eq hI]
  by_cases h : f_M_leads x1 U = 0
  · rw [if_pos h, if_pos h]
  · rw [if_neg h, if_neg h]
    obtain ⟨b, hb, rfl, _, _⟩ := isLd_b h
    have r7 := (hI.2.1.2.1 b hb).1.2.2.2.2.1
    have h8 := (hI.2.2.2.2.2.2.1 b hb).2.1
    have h40 := inv_dep hI hb
    obtain ⟨l1, l2⟩ := (hI.2.2.2.2.2.2.1 b hb).1
    obtain ⟨w, hw, ew⟩ := nI_of (x := U 8 b) (by rw [i_lt, i0]; omega)
    rw [ew, nI_toInt hw] at h8
    rw [cl4 hb, r7, ew, upTo_eq hI hb (by rw [nI_toInt (by omega)]; omega), nI_toInt (by omega), nI_clamp (by omega)]
    have e9 : (if (dep U (lastN U b) : Int) ≤ (w : Int) then lastN U b else nodeAt U (lastN U b) w) = nodeAt U (lastN U b) (min w (dep U (lastN U b))) := by
      by_cases q : (dep U (lastN U b) : Int) ≤ (w : Int)
      · rw [if_pos q, show min w (dep U (lastN U b)) = dep U (lastN U b) by omega, nodeAt_self]
      · rw [if_neg q, show min w (dep U (lastN U b)) = w by omega]
    rw [e9]
    have hle := hT.at_le (d := min w (dep U (lastN U b))) l2
    exact comm_loop hI hb w 42 521 (by omega) (by omega) (by omega)
end READ
