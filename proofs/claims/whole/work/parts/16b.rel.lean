/-! The relation between the class's state (G, P) and the reference's U, and what holds of U. -/
def recN (U : Nat → Nat → Int32) : Nat := (U 0 7).toNatClampNeg
/-- a set of brokers: a number below 16 against four truth values -/
def isSet (x : Int32) (f : Nat → Int32) : Prop := ∃ k : Nat, k < 16 ∧ x = nI k ∧ ∀ m : Nat, m < 4 → f m = if k.testBit m then 1 else 0
def stampN (U : Nat → Nat → Int32) (x : Nat) : Int32 := if U 6 x = 0 then U 4 x else -(U 4 x)
/-- rows 2 to 6: the tree -/
def sameT (U U' : Nat → Nat → Int32) : Prop := U' 2 = U 2 ∧ U' 3 = U 3 ∧ U' 4 = U 4 ∧ U' 5 = U 5 ∧ U' 6 = U 6
section SAMET
variable {U U' : Nat → Nat → Int32}
theorem sameT.e_dep (h : sameT U U') : dep U' = dep U := by funext x; unfold dep; rw [h.2.1]
theorem sameT.e_elder (h : sameT U U') : elder U' = elder U := by funext x; unfold elder; rw [h.1]
theorem sameT.e_epo (h : sameT U U') : epo U' = epo U := by funext x; unfold epo; rw [h.2.2.1]
theorem sameT.e_goUp (h : sameT U U') : ∀ t x : Nat, goUp U' t x = goUp U t x := by
  intro t
  induction t with
  | zero => intro x; rfl
  | succ t ih =>
    intro x
    show goUp U' t (elder U' x) = goUp U t (elder U x)
    rw [ih, h.e_elder]
theorem sameT.e_nodeAt (h : sameT U U') : nodeAt U' = nodeAt U := by
  funext x d
  unfold nodeAt
  rw [h.e_dep, h.e_goUp]
theorem sameT.e_stampN (h : sameT U U') : stampN U' = stampN U := by
  funext x
  unfold stampN
  rw [h.2.2.2.2, h.2.2.1]
theorem sameT.e_tree {r : Nat} (h : sameT U U') (hT : Tree U r) : Tree U' r := by
  obtain ⟨e2, e3, e4, e5, e6⟩ := h
  have ed := sameT.e_dep ⟨e2, e3, e4, e5, e6⟩
  have ee := sameT.e_elder ⟨e2, e3, e4, e5, e6⟩
  have eo := sameT.e_epo ⟨e2, e3, e4, e5, e6⟩
  unfold Tree
  rw [ed, ee, eo, e2, e3, e4, e5, e6]
  exact hT
end SAMET
/-- x's path holds y -/
def onPath (U : Nat → Nat → Int32) (x y : Nat) : Prop := dep U y ≤ dep U x ∧ nodeAt U x (dep U y) = y
/-- plain numbers of both -/
def RS (G U : Nat → Nat → Int32) : Prop := G 0 0 = U 0 0 ∧ G 0 1 = U 0 1 ∧ G 0 2 = U 0 2 ∧ G 0 6 = U 0 3 ∧ G 26 0 = U 0 4 ∧ G 26 1 = U 0 5 ∧ G 27 1 = U 0 24 ∧ isSet (G 26 2) (U 1)
/-- a broker's numbers -/
def RB (G U : Nat → Nat → Int32) (b : Nat) : Prop := G (2 + b) 0 = nI b ∧ G (2 + b) 4 = U 9 b ∧ G (2 + b) 5 = U 10 b ∧ G (2 + b) 6 = U 11 b ∧ G (2 + b) 7 = U 8 b ∧ G (2 + b) 8 = U 12 b ∧ G (2 + b) 9 = U 13 b
/-- a broker's log -/
def RL (G U : Nat → Nat → Int32) (b : Nat) : Prop := G (2 + b + 4) 2 = nI (dep U (lastN U b)) ∧ ∀ i : Nat, i < dep U (lastN U b) → G (2 + b + 8) i = stampN U (nodeAt U (lastN U b) (i + 1)) ∧ G (2 + b + 12) i = U 5 (nodeAt U (lastN U b) (i + 1))
/-- what a broker that knows itself as leader keeps -/
def RK (G U : Nat → Nat → Int32) (b : Nat) : Prop := U 11 b = nI b → G (2 + b) 10 = U 17 b ∧ isSet (G (2 + b) 11) (fun m => U 14 (4 * b + m)) ∧ (∀ m : Nat, m < 4 → G (2 + b + 16) m = U 15 (4 * b + m)) ∧ ∀ m : Nat, m < 4 → G (2 + b + 20) m = U 16 (4 * b + m)
/-- the messages under way -/
def RM (G : Nat → Nat → Int32) (P : Nat → Nat) (U : Nat → Nat → Int32) (i : Nat) : Prop := (∀ w : Nat, w < 7 → G (29 + P i) (2 + w) = U (18 + w) i) ∧
  (U 18 i = 2 → ∀ j : Nat, j < (U 23 i).toNatClampNeg → G (29 + P i + 9) j = stampN U (nodeAt U (U 25 i).toNatClampNeg (dep U (U 25 i).toNatClampNeg - (U 23 i).toNatClampNeg + j + 1)) ∧ G (29 + P i + 18) j = U 5 (nodeAt U (U 25 i).toNatClampNeg (dep U (U 25 i).toNatClampNeg - (U 23 i).toNatClampNeg + j + 1)))
def Rel (G : Nat → Nat → Int32) (P : Nat → Nat) (U : Nat → Nat → Int32) : Prop :=
  RS G U ∧ (∀ b : Nat, b < 4 → RB G U b ∧ RL G U b ∧ RK G U b) ∧ (∀ i : Nat, i < (U 0 24).toNatClampNeg → RM G P U i) ∧ (∀ i : Nat, i < 9 → P i < 9) ∧ (∀ i j : Nat, i < 9 → j < 9 → P i = P j → i = j) ∧ ∀ j : Nat, j < 9 → vp_in (G (29 + j) 4) 4 ∧ vp_in (G (29 + j) 3) 4
/-- numbers of the reference that are in range -/
def okN (k : Nat) (U : Nat → Nat → Int32) : Prop :=
  (1 ≤ (U 0 0).toInt ∧ (U 0 0).toInt ≤ 20) ∧ (1 ≤ (U 0 1).toInt ∧ (U 0 1).toInt ≤ 3) ∧ (1 ≤ (U 0 2).toInt ∧ (U 0 2).toInt ≤ 3) ∧
  (1 ≤ (U 0 4).toInt ∧ (U 0 4).toInt ≤ k + 1) ∧ (-1 ≤ (U 0 5).toInt ∧ (U 0 5).toInt < 4) ∧ (0 ≤ (U 0 7).toInt ∧ (U 0 7).toInt ≤ k) ∧ (0 ≤ (U 0 24).toInt ∧ (U 0 24).toInt ≤ 8)
/-- a broker of the reference: in range, and what its words mean -/
def okB (k : Nat) (U : Nat → Nat → Int32) (b : Nat) : Prop :=
  (U 7 b = nI (lastN U b) ∧ lastN U b ≤ recN U) ∧ (0 ≤ (U 8 b).toInt ∧ (U 8 b).toInt ≤ 40) ∧ zb (U 9 b) ∧ zb (U 13 b) ∧ (0 ≤ (U 12 b).toInt ∧ (U 12 b).toInt ≤ k) ∧
  (0 ≤ (U 10 b).toInt ∧ (U 10 b).toInt ≤ (U 0 4).toInt) ∧ (-1 ≤ (U 11 b).toInt ∧ (U 11 b).toInt < 4) ∧
  (U 10 b = 0 → U 11 b = -1) ∧ (U 10 b = U 0 4 → U 11 b = U 0 5) ∧ (¬ U 10 b = 0 → epo U (lastN U b) ≤ (U 10 b).toInt) ∧
  (U 13 b = 1 → U 9 b = 1 ∧ ¬ U 11 b = nI b ∧ ¬ U 10 b = 0) ∧
  (U 11 b = nI b → (∀ x : Nat, x ≤ recN U → epo U x = (U 10 b).toInt → onPath U (lastN U b) x) ∧ (0 ≤ (U 17 b).toInt ∧ (U 17 b).toInt ≤ 40) ∧ ∀ m : Nat, m < 4 → (-1 ≤ (U 15 (4 * b + m)).toInt ∧ (U 15 (4 * b + m)).toInt ≤ 40) ∧ zb (U 14 (4 * b + m))) ∧
  (U 0 5 = nI b → (∀ x : Nat, x ≤ recN U → epo U x = (U 0 4).toInt → onPath U (lastN U b) x) ∧ (¬ U 10 b = 0 → ¬ U 10 b = U 0 4 → ∀ x : Nat, x ≤ recN U → ¬ epo U x = (U 0 4).toInt))
/-- the follower of a message: who sent a FETCH, who gets the others -/
def folN (U : Nat → Nat → Int32) (i : Nat) : Nat := if U 18 i = 0 then (U 19 i).toNatClampNeg else (U 20 i).toNatClampNeg
/-- its answer would still be taken -/
def live (U : Nat → Nat → Int32) (i : Nat) : Prop := U 13 (folN U i) = 1 ∧ U 12 (folN U i) = U 22 i ∧ U 10 (folN U i) = U 21 i
def okM (U : Nat → Nat → Int32) (i : Nat) : Prop :=
  (U 18 i = 0 ∨ U 18 i = 1 ∨ U 18 i = 2) ∧ vp_in (U 19 i) 4 ∧ vp_in (U 20 i) 4 ∧ (1 ≤ (U 21 i).toInt ∧ (U 21 i).toInt ≤ (U 0 4).toInt) ∧ (0 ≤ (U 22 i).toInt ∧ (U 22 i).toInt ≤ (U 12 (folN U i)).toInt) ∧
  (0 ≤ (U 23 i).toInt ∧ (U 23 i).toInt ≤ 40) ∧ (0 ≤ (U 24 i).toInt ∧ (U 24 i).toInt ≤ 1000) ∧ (U 18 i = 2 → (U 24 i).toInt ≤ 40) ∧
  (U 25 i = nI (U 25 i).toNatClampNeg ∧ (U 25 i).toNatClampNeg ≤ recN U) ∧
  (U 18 i = 0 → (U 23 i = 0 → U 24 i = 0) ∧ (live U i → U 23 i = U 3 (lastN U (folN U i)) ∧ U 24 i = U 4 (lastN U (folN U i)))) ∧
  (U 18 i = 2 → (U 23 i).toInt ≤ 3 ∧ (U 23 i).toNatClampNeg ≤ dep U (U 25 i).toNatClampNeg ∧ epo U (U 25 i).toNatClampNeg ≤ (U 21 i).toInt ∧ (live U i → nodeAt U (U 25 i).toNatClampNeg (dep U (U 25 i).toNatClampNeg - (U 23 i).toNatClampNeg) = lastN U (folN U i)))
def okU (k : Nat) (U : Nat → Nat → Int32) : Prop :=
  okN k U ∧ Tree U (recN U) ∧ (∀ x : Nat, x ≤ recN U → epo U x ≤ (U 0 4).toInt) ∧ (∀ j : Nat, j < 4 → zb (U 1 j)) ∧ (∀ b : Nat, b < 4 → okB k U b) ∧
  (∀ b c : Nat, b < 4 → c < 4 → U 10 b = U 10 c → ¬ U 10 b = 0 → U 11 b = U 11 c) ∧ (∀ i : Nat, i < (U 0 24).toNatClampNeg → okM U i) ∧ (∀ x : Nat, recN U < x → U 2 x = 0 ∧ U 3 x = 0) ∧ okQ U
def Inv (k : Nat) (G : Nat → Nat → Int32) (P : Nat → Nat) (U : Nat → Nat → Int32) : Prop := k ≤ 512 ∧ Rel G P U ∧ okU k U
