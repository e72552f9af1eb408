/-! The reference's tree of records: depth, elder, epoch of a node; the node of a path at a depth. -/
def dep (U : Nat → Nat → Int32) (x : Nat) : Nat := (U 3 x).toNatClampNeg
def elder (U : Nat → Nat → Int32) (x : Nat) : Nat := (U 2 x).toNatClampNeg
def epo (U : Nat → Nat → Int32) (x : Nat) : Int := (U 4 x).toInt
def goUp (U : Nat → Nat → Int32) : Nat → Nat → Nat
  | 0, x => x
  | t + 1, x => goUp U t (elder U x)
/-- the node at depth d on the path to x -/
def nodeAt (U : Nat → Nat → Int32) (x d : Nat) : Nat := goUp U (dep U x - d) x
/-- node 0 is all zeros; a node's elder has a lesser number and one depth less; epochs don't fall; depth and epoch name a node -/
def Tree (U : Nat → Nat → Int32) (r : Nat) : Prop :=
  r < 519 ∧ (U 2 0 = 0 ∧ U 3 0 = 0 ∧ U 4 0 = 0 ∧ U 5 0 = 0 ∧ U 6 0 = 0) ∧
  (∀ x : Nat, 0 < x → x ≤ r → elder U x < x ∧ U 2 x = nI (elder U x) ∧ U 3 x = nI (dep U (elder U x) + 1) ∧ dep U (elder U x) + 1 ≤ 40 ∧ epo U (elder U x) ≤ epo U x ∧ 1 ≤ epo U x ∧ epo U x ≤ 1000 ∧ zb (U 6 x)) ∧
  (∀ x y : Nat, x ≤ r → y ≤ r → dep U x = dep U y → epo U x = epo U y → x = y)
section TREE
variable {U : Nat → Nat → Int32} {r : Nat}
theorem Tree.dep0 (h : Tree U r) : dep U 0 = 0 := by
  unfold dep
  rw [h.2.1.2.1]
  decide
theorem Tree.epo0 (h : Tree U r) : epo U 0 = 0 := by
  unfold epo
  rw [h.2.1.2.2.1, i0]
theorem Tree.elder_lt (h : Tree U r) {x : Nat} (h0 : 0 < x) (hx : x ≤ r) : elder U x < x := (h.2.2.1 x h0 hx).1
theorem Tree.dep_s (h : Tree U r) {x : Nat} (h0 : 0 < x) (hx : x ≤ r) : dep U x = dep U (elder U x) + 1 := by
  obtain ⟨_, _, h3, h4, _⟩ := h.2.2.1 x h0 hx
  have : (U 3 x).toNatClampNeg = dep U (elder U x) + 1 := by rw [h3, nI_clamp (by omega)]
  exact this
theorem Tree.dep_le (h : Tree U r) {x : Nat} (hx : x ≤ r) : dep U x ≤ 40 := by
  rcases Nat.eq_zero_or_pos x with h0 | h0
  · rw [h0, h.dep0]; omega
  · rw [h.dep_s h0 hx]
    exact (h.2.2.1 x h0 hx).2.2.2.1
theorem Tree.dep_n (h : Tree U r) {x : Nat} (hx : x ≤ r) : U 3 x = nI (dep U x) := by
  rcases Nat.eq_zero_or_pos x with h0 | h0
  · rw [h0, h.dep0, h.2.1.2.1]; decide
  · rw [h.dep_s h0 hx]
    exact (h.2.2.1 x h0 hx).2.2.1
theorem Tree.pos (h : Tree U r) {x : Nat} (hx : x ≤ r) (hd : 0 < dep U x) : 0 < x := by
  rcases Nat.eq_zero_or_pos x with h0 | h0
  · rw [h0, h.dep0] at hd; omega
  · exact h0
theorem Tree.zero (h : Tree U r) {x : Nat} (hx : x ≤ r) (hd : dep U x = 0) : x = 0 := by
  rcases Nat.eq_zero_or_pos x with h0 | h0
  · exact h0
  · rw [h.dep_s h0 hx] at hd; omega
theorem Tree.up_le (h : Tree U r) : ∀ (t x : Nat), x ≤ r → t ≤ dep U x → goUp U t x ≤ x ∧ dep U (goUp U t x) = dep U x - t := by
  intro t
  induction t with
  | zero => intro x hx _; exact ⟨Nat.le_refl _, rfl⟩
  | succ t ih =>
    intro x hx ht
    have h0 := h.pos hx (by omega)
    have h1 := h.elder_lt h0 hx
    have h2 := h.dep_s h0 hx
    obtain ⟨h3, h4⟩ := ih (elder U x) (by omega) (by omega)
    show goUp U t (elder U x) ≤ x ∧ dep U (goUp U t (elder U x)) = dep U x - (t + 1)
    exact ⟨by omega, by omega⟩
theorem Tree.at_le (h : Tree U r) {x d : Nat} (hx : x ≤ r) : nodeAt U x d ≤ x := (h.up_le (dep U x - d) x hx (by omega)).1
theorem Tree.at_dep (h : Tree U r) {x d : Nat} (hx : x ≤ r) (hd : d ≤ dep U x) : dep U (nodeAt U x d) = d := by
  have := (h.up_le (dep U x - d) x hx (by omega)).2
  unfold nodeAt
  omega
theorem nodeAt_self {x : Nat} : nodeAt U x (dep U x) = x := by
  unfold nodeAt
  rw [Nat.sub_self]
  rfl
theorem Tree.at_elder (h : Tree U r) {x d : Nat} (h0 : 0 < x) (hx : x ≤ r) (hd : d ≤ dep U (elder U x)) : nodeAt U x d = nodeAt U (elder U x) d := by
  unfold nodeAt
  rw [h.dep_s h0 hx, show dep U (elder U x) + 1 - d = (dep U (elder U x) - d) + 1 by omega]
  rfl
theorem Tree.at_0 (h : Tree U r) {x : Nat} (hx : x ≤ r) : nodeAt U x 0 = 0 := by
  have h1 := h.at_le (d := 0) hx
  exact h.zero (by omega) (h.at_dep hx (Nat.zero_le _))
theorem goUp_add : ∀ (s t x : Nat), goUp U (s + t) x = goUp U t (goUp U s x) := by
  intro s
  induction s with
  | zero => intro t x; rw [Nat.zero_add]; rfl
  | succ s ih =>
    intro t x
    rw [show s + 1 + t = (s + t) + 1 by omega]
    exact ih t (elder U x)
theorem Tree.at_at (h : Tree U r) {x d e : Nat} (hx : x ≤ r) (hd : d ≤ dep U x) (he : e ≤ d) : nodeAt U (nodeAt U x d) e = nodeAt U x e := by
  have h1 := h.at_dep hx hd
  show goUp U (dep U (nodeAt U x d) - e) (goUp U (dep U x - d) x) = goUp U (dep U x - e) x
  rw [h1, ← goUp_add]
  congr 1
  omega
theorem Tree.epo_up (h : Tree U r) {x : Nat} (hx : x ≤ r) : epo U (elder U x) ≤ epo U x ∨ x = 0 := by
  rcases Nat.eq_zero_or_pos x with h0 | h0
  · exact Or.inr h0
  · exact Or.inl (h.2.2.1 x h0 hx).2.2.2.2.1
theorem Tree.epo_goUp (h : Tree U r) : ∀ (t x : Nat), x ≤ r → t ≤ dep U x → epo U (goUp U t x) ≤ epo U x := by
  intro t
  induction t with
  | zero => intro x _ _; exact Int.le_refl _
  | succ t ih =>
    intro x hx ht
    have h0 := h.pos hx (by omega)
    have h1 := h.elder_lt h0 hx
    have h2 := h.dep_s h0 hx
    have h3 := (h.2.2.1 x h0 hx).2.2.2.2.1
    exact Int.le_trans (ih (elder U x) (by omega) (by omega)) h3
theorem Tree.epo_at (h : Tree U r) {x d e : Nat} (hx : x ≤ r) (hd : d ≤ e) (he : e ≤ dep U x) : epo U (nodeAt U x d) ≤ epo U (nodeAt U x e) := by
  rw [← h.at_at hx he hd]
  have h1 := h.at_le (d := e) hx
  have h2 := h.at_dep hx he
  exact h.epo_goUp _ _ (by omega) (by omega)
theorem Tree.epo_nn (h : Tree U r) {x : Nat} (hx : x ≤ r) : 0 ≤ epo U x ∧ epo U x ≤ 1000 := by
  rcases Nat.eq_zero_or_pos x with h0 | h0
  · rw [h0, h.epo0]; omega
  · have := (h.2.2.1 x h0 hx).2.2.2.2.2
    omega
/-- a broker's last node -/
def lastN (U : Nat → Nat → Int32) (b : Nat) : Nat := (U 7 b).toNatClampNeg
/-- upTo(b, n): the node at depth n, or the last one if the path is shorter -/
theorem upTo_7 (h : Tree U r) {x1 : Int32} {n : Int32} (hn : 0 ≤ n.toInt) : ∀ (k x : Nat), x ≤ r → x < k → f_M_upTo_7 x1 n U k (nI x) = nI (if (dep U x : Int) ≤ n.toInt then x else nodeAt U x n.toNatClampNeg) := by
  intro k
  induction k with
  | zero => intro x _ hk; omega
  | succ k ih =>
    intro x hx hk
    have hr := h.1
    rw [f_M_upTo_7, nI_clamp (by omega), h.dep_n hx]
    have hd := h.dep_le hx
    have e1 : (nI (dep U x) ≤ n) ↔ (dep U x : Int) ≤ n.toInt := by rw [i_le, nI_toInt (by omega)]
    by_cases q : (dep U x : Int) ≤ n.toInt
    · rw [if_pos (e1.mpr q), if_pos q]
    · rw [if_neg (fun z => q (e1.mp z)), if_neg q]
      have h0 := h.pos hx (by omega)
      have h1 := h.elder_lt h0 hx
      have h2 := h.dep_s h0 hx
      have h3 := (h.2.2.1 x h0 hx).2.1
      have hc := cl_of hn
      rw [h3, ih (elder U x) (by omega) (by omega)]
      congr 1
      by_cases q2 : (dep U (elder U x) : Int) ≤ n.toInt
      · rw [if_pos q2]
        have e2 : n.toNatClampNeg = dep U (elder U x) := by omega
        rw [e2, h.at_elder h0 hx (Nat.le_refl _), nodeAt_self]
      · rw [if_neg q2, h.at_elder h0 hx (by omega)]
/-- underEpoch(b, e): the youngest node of the path with an epoch of at most e -/
theorem under_7 (h : Tree U r) {x1 e : Int32} : ∀ (k x : Nat), x ≤ r → x < k → ∃ c : Nat, c ≤ dep U x ∧ f_M_underEpoch_7 x1 e U k (nI x) = nI (nodeAt U x c) ∧ (0 < c → epo U (nodeAt U x c) ≤ e.toInt) ∧ (c < dep U x → e.toInt < epo U (nodeAt U x (c + 1))) := by
  intro k
  induction k with
  | zero => intro x _ hk; omega
  | succ k ih =>
    intro x hx hk
    have hr := h.1
    rw [f_M_underEpoch_7, nI_clamp (by omega)]
    rcases Nat.eq_zero_or_pos x with h0 | h0
    · subst h0
      rw [if_pos (by decide)]
      exact ⟨0, Nat.zero_le _, by rw [h.at_0 (Nat.zero_le _)], fun q => by omega, fun q => by rw [h.dep0] at q; omega⟩
    · rw [if_neg (nI_nle h0 (by omega))]
      by_cases q : U 4 x ≤ e
      · rw [if_pos q]
        refine ⟨dep U x, Nat.le_refl _, by rw [nodeAt_self], fun _ => ?_, fun q2 => by omega⟩
        rw [nodeAt_self]
        exact i_le.mp q
      · rw [if_neg q]
        have h1 := h.elder_lt h0 hx
        have h2 := h.dep_s h0 hx
        have h3 := (h.2.2.1 x h0 hx).2.1
        rw [h3]
        obtain ⟨c, c1, c2, c3, c4⟩ := ih (elder U x) (by omega) (by omega)
        refine ⟨c, by omega, by rw [c2, h.at_elder h0 hx c1], fun z => by rw [h.at_elder h0 hx c1]; exact c3 z, fun z => ?_⟩
        by_cases q2 : c < dep U (elder U x)
        · rw [h.at_elder h0 hx (by omega)]
          exact c4 q2
        · have e2 : c + 1 = dep U x := by omega
          rw [e2, nodeAt_self]
          have : ¬ (U 4 x).toInt ≤ e.toInt := fun z => q (i_le.mpr z)
          unfold epo
          omega
end TREE
