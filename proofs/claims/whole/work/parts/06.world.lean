/-! The two worlds: shapes of the class's 56 cells and of the reference's 27, and what each cell is. -/
abbrev xty (cI cZ cB cM : ClassId) : List (ClassId × FieldType) := [(cI, .int), (cZ, .boolean), (cB, .object "InSyncLog$Broker"), (cM, .object "InSyncLog$Message")]
def kC (cI cB cM : ClassId) (a P : Nat → Nat) (n : Nat) (f : Nat → Int32) : va_E :=
  if n = 0 then .inr (5, [.int (f 0), .int (f 1), .int (f 2), .ref (a 1), .ref (a 26), .ref (a 27), .int (f 6)])
  else if n = 1 then .inl (cB, 4, .inr (.inr (.inr (.inr (fun j => some (a (2 + j)))))))
  else if n < 6 then .inr (0, [.int (f 0), .ref (a (n + 4)), .ref (a (n + 16)), .ref (a (n + 20)), .int (f 4), .int (f 5), .int (f 6), .int (f 7), .int (f 8), .int (f 9), .int (f 10), .int (f 11)])
  else if n < 10 then .inr (3, [.ref (a (n + 4)), .ref (a (n + 8)), .int (f 2)])
  else if n < 18 then .inl (cI, 40, .inl f)
  else if n < 26 then .inl (cI, 4, .inl f)
  else if n = 26 then .inr (2, [.int (f 0), .int (f 1), .int (f 2)])
  else if n = 27 then .inr (1, [.ref (a 28), .int (f 1)])
  else if n = 28 then .inl (cM, 9, .inr (.inr (.inr (.inr (fun j => some (a (29 + P j)))))))
  else if n < 38 then .inr (4, [.ref (a (n + 9)), .ref (a (n + 18)), .int (f 2), .int (f 3), .int (f 4), .int (f 5), .int (f 6), .int (f 7), .int (f 8)])
  else .inl (cI, 3, .inl f)
section KC
variable {cI cB cM : ClassId} {a P : Nat → Nat} {n : Nat} {f : Nat → Int32}
theorem kC_I : kC cI cB cM a P 0 f = .inr (5, [.int (f 0), .int (f 1), .int (f 2), .ref (a 1), .ref (a 26), .ref (a 27), .int (f 6)]) := rfl
theorem kC_BA : kC cI cB cM a P 1 f = .inl (cB, 4, .inr (.inr (.inr (.inr (fun j => some (a (2 + j))))))) := rfl
theorem kC_B (n1 : 2 ≤ n) (n2 : n < 6) : kC cI cB cM a P n f = .inr (0, [.int (f 0), .ref (a (n + 4)), .ref (a (n + 16)), .ref (a (n + 20)), .int (f 4), .int (f 5), .int (f 6), .int (f 7), .int (f 8), .int (f 9), .int (f 10), .int (f 11)]) := by
  unfold kC
  rw [if_neg (by omega), if_neg (by omega), if_pos n2]
theorem kC_L (n1 : 6 ≤ n) (n2 : n < 10) : kC cI cB cM a P n f = .inr (3, [.ref (a (n + 4)), .ref (a (n + 8)), .int (f 2)]) := by
  unfold kC
  rw [if_neg (by omega), if_neg (by omega), if_neg (by omega), if_pos n2]
theorem kC_A40 (n1 : 10 ≤ n) (n2 : n < 18) : kC cI cB cM a P n f = .inl (cI, 40, .inl f) := by
  unfold kC
  rw [if_neg (by omega), if_neg (by omega), if_neg (by omega), if_neg (by omega), if_pos n2]
theorem kC_A4 (n1 : 18 ≤ n) (n2 : n < 26) : kC cI cB cM a P n f = .inl (cI, 4, .inl f) := by
  unfold kC
  rw [if_neg (by omega), if_neg (by omega), if_neg (by omega), if_neg (by omega), if_neg (by omega), if_pos n2]
theorem kC_T : kC cI cB cM a P 26 f = .inr (2, [.int (f 0), .int (f 1), .int (f 2)]) := rfl
theorem kC_H : kC cI cB cM a P 27 f = .inr (1, [.ref (a 28), .int (f 1)]) := rfl
theorem kC_MA : kC cI cB cM a P 28 f = .inl (cM, 9, .inr (.inr (.inr (.inr (fun j => some (a (29 + P j))))))) := rfl
theorem kC_G (n1 : 29 ≤ n) (n2 : n < 38) : kC cI cB cM a P n f = .inr (4, [.ref (a (n + 9)), .ref (a (n + 18)), .int (f 2), .int (f 3), .int (f 4), .int (f 5), .int (f 6), .int (f 7), .int (f 8)]) := by
  unfold kC
  rw [if_neg (by omega), if_neg (by omega), if_neg (by omega), if_neg (by omega), if_neg (by omega), if_neg (by omega), if_neg (by omega), if_neg (by omega), if_neg (by omega), if_pos n2]
theorem kC_A3 (n1 : 38 ≤ n) (_n2 : n < 56) : kC cI cB cM a P n f = .inl (cI, 3, .inl f) := by
  unfold kC
  rw [if_neg (by omega), if_neg (by omega), if_neg (by omega), if_neg (by omega), if_neg (by omega), if_neg (by omega), if_neg (by omega), if_neg (by omega), if_neg (by omega), if_neg (by omega)]
theorem kC_P {P' : Nat → Nat} : ∀ j : Nat, j ≠ 28 → kC cI cB cM a P' j = kC cI cB cM a P j := by
  intro j hj
  funext f
  unfold kC
  simp only [if_neg hj]
theorem kC_Pu {i w : Nat} : kC cI cB cM a (va_up P i w) 28 f = .inl (cM, 9, .inr (.inr (.inr (.inr (va_up (fun j => some (a (29 + P j))) i (some (a (29 + w)))))))) := by
  have e : (fun j => some (a (29 + va_up P i w j))) = va_up (fun j => some (a (29 + P j))) i (some (a (29 + w))) := by
    funext j
    unfold va_up
    split <;> rfl
  rw [kC_MA, e]
end KC
def kM (cI cZ : ClassId) (a : Nat → Nat) (n : Nat) (f : Nat → Int32) : va_E := match n with
  | 0 => .inr (6, [.int (f 0), .int (f 1), .int (f 2), .int (f 3), .int (f 4), .int (f 5), .ref (a 1), .int (f 7), .ref (a 2), .ref (a 3), .ref (a 4), .ref (a 5), .ref (a 6), .ref (a 7), .ref (a 8), .ref (a 9), .ref (a 10), .ref (a 11), .ref (a 12), .ref (a 13), .ref (a 14), .ref (a 15), .ref (a 16), .ref (a 17), .int (f 24), .ref (a 18), .ref (a 19), .ref (a 20), .ref (a 21), .ref (a 22), .ref (a 23), .ref (a 24), .ref (a 25), .ref (a 26)])
  | 1 => .inl (cZ, 4, .inl f)
  | 2 => .inl (cI, 520, .inl f)
  | 3 => .inl (cI, 520, .inl f)
  | 4 => .inl (cI, 520, .inl f)
  | 5 => .inl (cI, 520, .inl f)
  | 6 => .inl (cZ, 520, .inl f)
  | 7 => .inl (cI, 4, .inl f)
  | 8 => .inl (cI, 4, .inl f)
  | 9 => .inl (cZ, 4, .inl f)
  | 10 => .inl (cI, 4, .inl f)
  | 11 => .inl (cI, 4, .inl f)
  | 12 => .inl (cI, 4, .inl f)
  | 13 => .inl (cZ, 4, .inl f)
  | 14 => .inl (cZ, 16, .inl f)
  | 15 => .inl (cI, 16, .inl f)
  | 16 => .inl (cI, 16, .inl f)
  | 17 => .inl (cI, 4, .inl f)
  | _ => .inl (cI, 8, .inl f)
/-- a place that is in range is a number below the length -/
theorem vp_lt {i : Int32} {n : Nat} (h : vp_in i n) : i.toNatClampNeg < n := Nat.not_le.mp fun q => h (Or.inr q)
/-- a join: from a claim about all states at a place to each of them -/
theorem xjoin {α β : Prop} (h : α) (k : α → β) : β := k h
/-! one number of an object is written -/
section KP
variable {cI cZ cB cM : ClassId} {a P : Nat → Nat} {n : Nat} {f : Nat → Int32} {v : Int32}
theorem kp_T_0 : (.inr (2, List.set (α := Value) [.int (f 0), .int (f 1), .int (f 2)] 0 (.int v)) : va_E) = kC cI cB cM a P 26 (va_up f 0 v) := rfl
theorem kp_T_1 : (.inr (2, List.set (α := Value) [.int (f 0), .int (f 1), .int (f 2)] 1 (.int v)) : va_E) = kC cI cB cM a P 26 (va_up f 1 v) := rfl
theorem kp_T_2 : (.inr (2, List.set (α := Value) [.int (f 0), .int (f 1), .int (f 2)] 2 (.int v)) : va_E) = kC cI cB cM a P 26 (va_up f 2 v) := rfl
theorem kp_G_2 (n1 : 29 ≤ n) (n2 : n < 38) : (.inr (4, List.set (α := Value) [.ref (a (n + 9)), .ref (a (n + 18)), .int (f 2), .int (f 3), .int (f 4), .int (f 5), .int (f 6), .int (f 7), .int (f 8)] 2 (.int v)) : va_E) = kC cI cB cM a P n (va_up f 2 v) := by
  rw [kC_G n1 n2]
  rfl
theorem kp_G_3 (n1 : 29 ≤ n) (n2 : n < 38) : (.inr (4, List.set (α := Value) [.ref (a (n + 9)), .ref (a (n + 18)), .int (f 2), .int (f 3), .int (f 4), .int (f 5), .int (f 6), .int (f 7), .int (f 8)] 3 (.int v)) : va_E) = kC cI cB cM a P n (va_up f 3 v) := by
  rw [kC_G n1 n2]
  rfl
theorem kp_G_4 (n1 : 29 ≤ n) (n2 : n < 38) : (.inr (4, List.set (α := Value) [.ref (a (n + 9)), .ref (a (n + 18)), .int (f 2), .int (f 3), .int (f 4), .int (f 5), .int (f 6), .int (f 7), .int (f 8)] 4 (.int v)) : va_E) = kC cI cB cM a P n (va_up f 4 v) := by
  rw [kC_G n1 n2]
  rfl
theorem kp_G_5 (n1 : 29 ≤ n) (n2 : n < 38) : (.inr (4, List.set (α := Value) [.ref (a (n + 9)), .ref (a (n + 18)), .int (f 2), .int (f 3), .int (f 4), .int (f 5), .int (f 6), .int (f 7), .int (f 8)] 5 (.int v)) : va_E) = kC cI cB cM a P n (va_up f 5 v) := by
  rw [kC_G n1 n2]
  rfl
theorem kp_G_6 (n1 : 29 ≤ n) (n2 : n < 38) : (.inr (4, List.set (α := Value) [.ref (a (n + 9)), .ref (a (n + 18)), .int (f 2), .int (f 3), .int (f 4), .int (f 5), .int (f 6), .int (f 7), .int (f 8)] 6 (.int v)) : va_E) = kC cI cB cM a P n (va_up f 6 v) := by
  rw [kC_G n1 n2]
  rfl
theorem kp_G_7 (n1 : 29 ≤ n) (n2 : n < 38) : (.inr (4, List.set (α := Value) [.ref (a (n + 9)), .ref (a (n + 18)), .int (f 2), .int (f 3), .int (f 4), .int (f 5), .int (f 6), .int (f 7), .int (f 8)] 7 (.int v)) : va_E) = kC cI cB cM a P n (va_up f 7 v) := by
  rw [kC_G n1 n2]
  rfl
theorem kp_G_8 (n1 : 29 ≤ n) (n2 : n < 38) : (.inr (4, List.set (α := Value) [.ref (a (n + 9)), .ref (a (n + 18)), .int (f 2), .int (f 3), .int (f 4), .int (f 5), .int (f 6), .int (f 7), .int (f 8)] 8 (.int v)) : va_E) = kC cI cB cM a P n (va_up f 8 v) := by
  rw [kC_G n1 n2]
  rfl
theorem kp_H_1 : (.inr (1, List.set (α := Value) [.ref (a 28), .int (f 1)] 1 (.int v)) : va_E) = kC cI cB cM a P 27 (va_up f 1 v) := rfl
theorem kp_L_2 (n1 : 6 ≤ n) (n2 : n < 10) : (.inr (3, List.set (α := Value) [.ref (a (n + 4)), .ref (a (n + 8)), .int (f 2)] 2 (.int v)) : va_E) = kC cI cB cM a P n (va_up f 2 v) := by
  rw [kC_L n1 n2]
  rfl
theorem kp_B_0 (n1 : 2 ≤ n) (n2 : n < 6) : (.inr (0, List.set (α := Value) [.int (f 0), .ref (a (n + 4)), .ref (a (n + 16)), .ref (a (n + 20)), .int (f 4), .int (f 5), .int (f 6), .int (f 7), .int (f 8), .int (f 9), .int (f 10), .int (f 11)] 0 (.int v)) : va_E) = kC cI cB cM a P n (va_up f 0 v) := by
  rw [kC_B n1 n2]
  rfl
theorem kp_B_4 (n1 : 2 ≤ n) (n2 : n < 6) : (.inr (0, List.set (α := Value) [.int (f 0), .ref (a (n + 4)), .ref (a (n + 16)), .ref (a (n + 20)), .int (f 4), .int (f 5), .int (f 6), .int (f 7), .int (f 8), .int (f 9), .int (f 10), .int (f 11)] 4 (.int v)) : va_E) = kC cI cB cM a P n (va_up f 4 v) := by
  rw [kC_B n1 n2]
  rfl
theorem kp_B_5 (n1 : 2 ≤ n) (n2 : n < 6) : (.inr (0, List.set (α := Value) [.int (f 0), .ref (a (n + 4)), .ref (a (n + 16)), .ref (a (n + 20)), .int (f 4), .int (f 5), .int (f 6), .int (f 7), .int (f 8), .int (f 9), .int (f 10), .int (f 11)] 5 (.int v)) : va_E) = kC cI cB cM a P n (va_up f 5 v) := by
  rw [kC_B n1 n2]
  rfl
theorem kp_B_6 (n1 : 2 ≤ n) (n2 : n < 6) : (.inr (0, List.set (α := Value) [.int (f 0), .ref (a (n + 4)), .ref (a (n + 16)), .ref (a (n + 20)), .int (f 4), .int (f 5), .int (f 6), .int (f 7), .int (f 8), .int (f 9), .int (f 10), .int (f 11)] 6 (.int v)) : va_E) = kC cI cB cM a P n (va_up f 6 v) := by
  rw [kC_B n1 n2]
  rfl
theorem kp_B_7 (n1 : 2 ≤ n) (n2 : n < 6) : (.inr (0, List.set (α := Value) [.int (f 0), .ref (a (n + 4)), .ref (a (n + 16)), .ref (a (n + 20)), .int (f 4), .int (f 5), .int (f 6), .int (f 7), .int (f 8), .int (f 9), .int (f 10), .int (f 11)] 7 (.int v)) : va_E) = kC cI cB cM a P n (va_up f 7 v) := by
  rw [kC_B n1 n2]
  rfl
theorem kp_B_8 (n1 : 2 ≤ n) (n2 : n < 6) : (.inr (0, List.set (α := Value) [.int (f 0), .ref (a (n + 4)), .ref (a (n + 16)), .ref (a (n + 20)), .int (f 4), .int (f 5), .int (f 6), .int (f 7), .int (f 8), .int (f 9), .int (f 10), .int (f 11)] 8 (.int v)) : va_E) = kC cI cB cM a P n (va_up f 8 v) := by
  rw [kC_B n1 n2]
  rfl
theorem kp_B_9 (n1 : 2 ≤ n) (n2 : n < 6) : (.inr (0, List.set (α := Value) [.int (f 0), .ref (a (n + 4)), .ref (a (n + 16)), .ref (a (n + 20)), .int (f 4), .int (f 5), .int (f 6), .int (f 7), .int (f 8), .int (f 9), .int (f 10), .int (f 11)] 9 (.int v)) : va_E) = kC cI cB cM a P n (va_up f 9 v) := by
  rw [kC_B n1 n2]
  rfl
theorem kp_B_10 (n1 : 2 ≤ n) (n2 : n < 6) : (.inr (0, List.set (α := Value) [.int (f 0), .ref (a (n + 4)), .ref (a (n + 16)), .ref (a (n + 20)), .int (f 4), .int (f 5), .int (f 6), .int (f 7), .int (f 8), .int (f 9), .int (f 10), .int (f 11)] 10 (.int v)) : va_E) = kC cI cB cM a P n (va_up f 10 v) := by
  rw [kC_B n1 n2]
  rfl
theorem kp_B_11 (n1 : 2 ≤ n) (n2 : n < 6) : (.inr (0, List.set (α := Value) [.int (f 0), .ref (a (n + 4)), .ref (a (n + 16)), .ref (a (n + 20)), .int (f 4), .int (f 5), .int (f 6), .int (f 7), .int (f 8), .int (f 9), .int (f 10), .int (f 11)] 11 (.int v)) : va_E) = kC cI cB cM a P n (va_up f 11 v) := by
  rw [kC_B n1 n2]
  rfl
theorem kp_I_0 : (.inr (5, List.set (α := Value) [.int (f 0), .int (f 1), .int (f 2), .ref (a 1), .ref (a 26), .ref (a 27), .int (f 6)] 0 (.int v)) : va_E) = kC cI cB cM a P 0 (va_up f 0 v) := rfl
theorem kp_I_1 : (.inr (5, List.set (α := Value) [.int (f 0), .int (f 1), .int (f 2), .ref (a 1), .ref (a 26), .ref (a 27), .int (f 6)] 1 (.int v)) : va_E) = kC cI cB cM a P 0 (va_up f 1 v) := rfl
theorem kp_I_2 : (.inr (5, List.set (α := Value) [.int (f 0), .int (f 1), .int (f 2), .ref (a 1), .ref (a 26), .ref (a 27), .int (f 6)] 2 (.int v)) : va_E) = kC cI cB cM a P 0 (va_up f 2 v) := rfl
theorem kp_I_6 : (.inr (5, List.set (α := Value) [.int (f 0), .int (f 1), .int (f 2), .ref (a 1), .ref (a 26), .ref (a 27), .int (f 6)] 6 (.int v)) : va_E) = kC cI cB cM a P 0 (va_up f 6 v) := rfl
theorem kp_M_0 : (.inr (6, List.set (α := Value) [.int (f 0), .int (f 1), .int (f 2), .int (f 3), .int (f 4), .int (f 5), .ref (a 1), .int (f 7), .ref (a 2), .ref (a 3), .ref (a 4), .ref (a 5), .ref (a 6), .ref (a 7), .ref (a 8), .ref (a 9), .ref (a 10), .ref (a 11), .ref (a 12), .ref (a 13), .ref (a 14), .ref (a 15), .ref (a 16), .ref (a 17), .int (f 24), .ref (a 18), .ref (a 19), .ref (a 20), .ref (a 21), .ref (a 22), .ref (a 23), .ref (a 24), .ref (a 25), .ref (a 26)] 0 (.int v)) : va_E) = kM cI cZ a 0 (va_up f 0 v) := rfl
theorem kp_M_1 : (.inr (6, List.set (α := Value) [.int (f 0), .int (f 1), .int (f 2), .int (f 3), .int (f 4), .int (f 5), .ref (a 1), .int (f 7), .ref (a 2), .ref (a 3), .ref (a 4), .ref (a 5), .ref (a 6), .ref (a 7), .ref (a 8), .ref (a 9), .ref (a 10), .ref (a 11), .ref (a 12), .ref (a 13), .ref (a 14), .ref (a 15), .ref (a 16), .ref (a 17), .int (f 24), .ref (a 18), .ref (a 19), .ref (a 20), .ref (a 21), .ref (a 22), .ref (a 23), .ref (a 24), .ref (a 25), .ref (a 26)] 1 (.int v)) : va_E) = kM cI cZ a 0 (va_up f 1 v) := rfl
theorem kp_M_2 : (.inr (6, List.set (α := Value) [.int (f 0), .int (f 1), .int (f 2), .int (f 3), .int (f 4), .int (f 5), .ref (a 1), .int (f 7), .ref (a 2), .ref (a 3), .ref (a 4), .ref (a 5), .ref (a 6), .ref (a 7), .ref (a 8), .ref (a 9), .ref (a 10), .ref (a 11), .ref (a 12), .ref (a 13), .ref (a 14), .ref (a 15), .ref (a 16), .ref (a 17), .int (f 24), .ref (a 18), .ref (a 19), .ref (a 20), .ref (a 21), .ref (a 22), .ref (a 23), .ref (a 24), .ref (a 25), .ref (a 26)] 2 (.int v)) : va_E) = kM cI cZ a 0 (va_up f 2 v) := rfl
theorem kp_M_3 : (.inr (6, List.set (α := Value) [.int (f 0), .int (f 1), .int (f 2), .int (f 3), .int (f 4), .int (f 5), .ref (a 1), .int (f 7), .ref (a 2), .ref (a 3), .ref (a 4), .ref (a 5), .ref (a 6), .ref (a 7), .ref (a 8), .ref (a 9), .ref (a 10), .ref (a 11), .ref (a 12), .ref (a 13), .ref (a 14), .ref (a 15), .ref (a 16), .ref (a 17), .int (f 24), .ref (a 18), .ref (a 19), .ref (a 20), .ref (a 21), .ref (a 22), .ref (a 23), .ref (a 24), .ref (a 25), .ref (a 26)] 3 (.int v)) : va_E) = kM cI cZ a 0 (va_up f 3 v) := rfl
theorem kp_M_4 : (.inr (6, List.set (α := Value) [.int (f 0), .int (f 1), .int (f 2), .int (f 3), .int (f 4), .int (f 5), .ref (a 1), .int (f 7), .ref (a 2), .ref (a 3), .ref (a 4), .ref (a 5), .ref (a 6), .ref (a 7), .ref (a 8), .ref (a 9), .ref (a 10), .ref (a 11), .ref (a 12), .ref (a 13), .ref (a 14), .ref (a 15), .ref (a 16), .ref (a 17), .int (f 24), .ref (a 18), .ref (a 19), .ref (a 20), .ref (a 21), .ref (a 22), .ref (a 23), .ref (a 24), .ref (a 25), .ref (a 26)] 4 (.int v)) : va_E) = kM cI cZ a 0 (va_up f 4 v) := rfl
theorem kp_M_5 : (.inr (6, List.set (α := Value) [.int (f 0), .int (f 1), .int (f 2), .int (f 3), .int (f 4), .int (f 5), .ref (a 1), .int (f 7), .ref (a 2), .ref (a 3), .ref (a 4), .ref (a 5), .ref (a 6), .ref (a 7), .ref (a 8), .ref (a 9), .ref (a 10), .ref (a 11), .ref (a 12), .ref (a 13), .ref (a 14), .ref (a 15), .ref (a 16), .ref (a 17), .int (f 24), .ref (a 18), .ref (a 19), .ref (a 20), .ref (a 21), .ref (a 22), .ref (a 23), .ref (a 24), .ref (a 25), .ref (a 26)] 5 (.int v)) : va_E) = kM cI cZ a 0 (va_up f 5 v) := rfl
theorem kp_M_7 : (.inr (6, List.set (α := Value) [.int (f 0), .int (f 1), .int (f 2), .int (f 3), .int (f 4), .int (f 5), .ref (a 1), .int (f 7), .ref (a 2), .ref (a 3), .ref (a 4), .ref (a 5), .ref (a 6), .ref (a 7), .ref (a 8), .ref (a 9), .ref (a 10), .ref (a 11), .ref (a 12), .ref (a 13), .ref (a 14), .ref (a 15), .ref (a 16), .ref (a 17), .int (f 24), .ref (a 18), .ref (a 19), .ref (a 20), .ref (a 21), .ref (a 22), .ref (a 23), .ref (a 24), .ref (a 25), .ref (a 26)] 7 (.int v)) : va_E) = kM cI cZ a 0 (va_up f 7 v) := rfl
theorem kp_M_24 : (.inr (6, List.set (α := Value) [.int (f 0), .int (f 1), .int (f 2), .int (f 3), .int (f 4), .int (f 5), .ref (a 1), .int (f 7), .ref (a 2), .ref (a 3), .ref (a 4), .ref (a 5), .ref (a 6), .ref (a 7), .ref (a 8), .ref (a 9), .ref (a 10), .ref (a 11), .ref (a 12), .ref (a 13), .ref (a 14), .ref (a 15), .ref (a 16), .ref (a 17), .int (f 24), .ref (a 18), .ref (a 19), .ref (a 20), .ref (a 21), .ref (a 22), .ref (a 23), .ref (a 24), .ref (a 25), .ref (a 26)] 24 (.int v)) : va_E) = kM cI cZ a 0 (va_up f 24 v) := rfl
end KP
/-! a method's end: its function's value against the state -/
theorem gp_eq {cI cB cM : ClassId} {a : Nat → Nat} {α : Type} {f : α × (Nat → Nat → Int32) × (Nat → Nat)} {r : α} {A : Nat → Nat → Int32} {B : Nat → Nat} (E : f = (r, A, B)) : kg (kC cI cB cM a B) A = kg (kC cI cB cM a f.2.2) f.2.1 := by rw [E]
theorem gp_r {α : Type} {f : α × (Nat → Nat → Int32) × (Nat → Nat)} {r : α} {A : Nat → Nat → Int32} {B : Nat → Nat} (E : f = (r, A, B)) : r = f.1 := by rw [E]
theorem g_eq {K : Nat → (Nat → Int32) → va_E} {α : Type} {f : α × (Nat → Nat → Int32)} {r : α} {A : Nat → Nat → Int32} (E : f = (r, A)) : kg K A = kg K f.2 := by rw [E]
theorem g_r {α : Type} {f : α × (Nat → Nat → Int32)} {r : α} {A : Nat → Nat → Int32} (E : f = (r, A)) : r = f.1 := by rw [E]
theorem gv_eq {K : Nat → (Nat → Int32) → va_E} {f A : Nat → Nat → Int32} (E : f = A) : kg K A = kg K f := by rw [E]
