/-! The X layer: a world of N cells (cell n lies at a n and holds K n (G n)), and a judgement over W that hides the heap. -/
section XL
def xw (N : Nat) (a : Nat → Nat) (E : Nat → va_E) : va_W := (List.range N).map (fun n => (a n, E n))
/-- cells whose shape is fixed (K) and whose numbers are the state (G) -/
abbrev kg (K : Nat → (Nat → Int32) → va_E) (G : Nat → Nat → Int32) : Nat → va_E := fun n => K n (G n)
def xJ (N : Nat) (a : Nat → Nat) : Prop := ∀ i j : Nat, i < N → j < N → a i = a j → i = j
def xA (N : Nat) (a : Nat → Nat) : Nat → Prop := fun q => ∃ i : Nat, i < N ∧ a i = q
/-- one number of the state is written -/
def g2 (G : Nat → Nat → Int32) (n k : Nat) (v : Int32) : Nat → Nat → Int32 := va_up G n (va_up (G n) k v)
theorem g2_row (G : Nat → Nat → Int32) (n k : Nat) (v : Int32) : g2 G n k v n = va_up (G n) k v := va_up_self G n _
theorem g2_ne (G : Nat → Nat → Int32) {n i : Nat} (k : Nat) (v : Int32) (h : i ≠ n) : g2 G n k v i = G i := va_up_ne G _ h
theorem g2_at (G : Nat → Nat → Int32) (n k : Nat) (v : Int32) : g2 G n k v n k = v := by rw [g2_row]; exact va_up_self _ _ _
theorem g2_k (G : Nat → Nat → Int32) (n : Nat) {k j : Nat} (v : Int32) (h : j ≠ k) : g2 G n k v n j = G n j := by rw [g2_row]; exact va_up_ne _ _ h
theorem xw_at {N : Nat} {a : Nat → Nat} {E : Nat → va_E} {n : Nat} (h : n < N) : (xw N a E)[n]? = some (a n, E n) := by
  simp [xw, h]
theorem xw_of {N : Nat} {a : Nat → Nat} {E : Nat → va_E} {n : Nat} {q : Nat × va_E} (h : (xw N a E)[n]? = some q) : n < N ∧ q = (a n, E n) := by
  have hn : n < N := by
    have := (List.getElem?_eq_some_iff.mp h).1
    simpa [xw] using this
  rw [xw_at hn] at h
  exact ⟨hn, (Option.some.inj h).symm⟩
theorem xw_setE {N : Nat} {a : Nat → Nat} {E : Nat → va_E} {n : Nat} {e : va_E} (h : n < N) : (xw N a E).set n (a n, e) = xw N a (va_up E n e) := by
  apply List.ext_getElem?
  intro i
  by_cases hi : n = i
  · subst hi
    rw [List.getElem?_set_self (by simpa [xw] using h), xw_at h, va_up_self]
  · rw [List.getElem?_set_ne hi]
    by_cases hN : i < N
    · rw [xw_at hN, xw_at hN, va_up_ne _ _ (fun q => hi q.symm)]
    · rw [List.getElem?_eq_none (by simpa [xw] using hN), List.getElem?_eq_none (by simpa [xw] using hN)]
theorem xw_eq {N : Nat} {a : Nat → Nat} {E E' : Nat → va_E} (h : ∀ n, n < N → E n = E' n) : xw N a E = xw N a E' := by
  unfold xw
  apply List.map_congr_left
  intro n hn
  rw [h n (List.mem_range.mp hn)]
theorem xw_set {N : Nat} {a : Nat → Nat} {K : Nat → (Nat → Int32) → va_E} {G : Nat → Nat → Int32} {n k : Nat} {v : Int32} {e : va_E} (h : n < N) (he : e = K n (va_up (G n) k v)) : (xw N a (kg K G)).set n (a n, e) = xw N a (kg K (g2 G n k v)) := by
  rw [xw_setE h]
  apply xw_eq
  intro i _
  by_cases hi : i = n
  · subst hi
    rw [va_up_self, he]
    show _ = K i (g2 G i k v i)
    rw [g2_row]
  · rw [va_up_ne _ _ hi]
    show K i (G i) = K i (g2 G n k v i)
    rw [g2_ne _ _ _ hi]
theorem xD {N : Nat} {a : Nat → Nat} {E : Nat → va_E} (h : xJ N a) : va_D (xA N a) (xw N a E) := by
  refine ⟨fun i j p q hp hq e => ?_, fun k q hk => ?_⟩
  · obtain ⟨h1, rfl⟩ := xw_of hp
    obtain ⟨h2, rfl⟩ := xw_of hq
    exact h i j h1 h2 e
  · obtain ⟨h1, rfl⟩ := xw_of hk
    exact ⟨k, h1, rfl⟩
/-- what stays the same through a method's body -/
def XC (Y : Heap → List Loc → JFrame → Prop) (l : Launch) (R : Room) (s : State) (m : MethodId) (args : Array Value) (cc : ByteArray) (nL : Nat) (own : String) (ret : Option FieldType) (cn sn : Nat) (QQ : List Frame → State → Prop) (D : va_G) (cl : List vw_C) (tys : List (ClassId × FieldType)) (N : Nat) (a : Nat → Nat) : Prop :=
  (∃ (p : Program) (e : Env) (below : List Frame) (meth : Method) (c : Code), Y = (fun H locs g => W p l e R s m args below meth c H locs cn sn (QQ below) g) ∧ CallFix p m c cc nL s args wsBig own ∧ meth.sig.returnType = ret ∧ meth.locks = false) ∧ cn ≤ R.cells ∧ sn ≤ R.slots ∧ va_K D cl tys s ∧ xJ N a ∧ xN s
def X (Y : Heap → List Loc → JFrame → Prop) (s : State) (m : MethodId) (D : va_G) (cl : List vw_C) (N : Nat) (a : Nat → Nat) (nL : Nat) (E : Nat → va_E) (pc : Nat) (L : List (Nat × Value)) (st : List Value) : Prop :=
  ∀ (H : Heap) (locs : List Loc) (ls : Array Slot), va_P D cl (xw N a E) H → va_S (xA N a) s.heap H locs → lv_has ls nL L → Y H locs (F0 m pc ls st)
variable {Y : Heap → List Loc → JFrame → Prop} {l : Launch} {R : Room} {s : State} {m : MethodId} {args : Array Value} {cc : ByteArray} {nL : Nat} {own : String} {ret : Option FieldType} {cn sn : Nat} {QQ : List Frame → State → Prop}
variable {D : va_G} {cl : List vw_C} {tys : List (ClassId × FieldType)} {N : Nat} {a : Nat → Nat} {E E' : Nat → va_E} {K : Nat → (Nat → Int32) → va_E} {G : Nat → Nat → Int32} {pc pc' : Nat} {L L' : List (Nat × Value)} {st : List Value}
theorem X_iconst (Γ : XC Y l R s m args cc nL own ret cn sn QQ D cl tys N a) {n : Int} {v : Int32} (hd : decode cc pc = .ok (.iconst n, 1)) (hv : Int32.ofInt n = v) (hp : pc + 1 = pc') (kk : X Y s m D cl N a nL E pc' L (.int v :: st)) : X Y s m D cl N a nL E pc L st := by
  obtain ⟨⟨p, e, below, meth, c, rfl, ⟨hx, hb, hml, hown, hts⟩, hr, hlk⟩, hcn, hsn, hK, hJ, hNs⟩ := Γ
  subst hp
  intro H locs ls h1 h2 h3
  exact lv_iconst hx hb hd hv (kk H locs ls h1 h2 h3)
theorem X_bipush (Γ : XC Y l R s m args cc nL own ret cn sn QQ D cl tys N a) {n : Int} {v : Int32} (hd : decode cc pc = .ok (.bipush n, 2)) (hv : (Int8.ofInt n).toInt32 = v) (hp : pc + 2 = pc') (kk : X Y s m D cl N a nL E pc' L (.int v :: st)) : X Y s m D cl N a nL E pc L st := by
  obtain ⟨⟨p, e, below, meth, c, rfl, ⟨hx, hb, hml, hown, hts⟩, hr, hlk⟩, hcn, hsn, hK, hJ, hNs⟩ := Γ
  subst hp
  intro H locs ls h1 h2 h3
  exact lv_bipush hx hb hd hv (kk H locs ls h1 h2 h3)
theorem X_sipush (Γ : XC Y l R s m args cc nL own ret cn sn QQ D cl tys N a) {n : Int} {v : Int32} (hd : decode cc pc = .ok (.sipush n, 3)) (hv : (Int16.ofInt n).toInt32 = v) (hp : pc + 3 = pc') (kk : X Y s m D cl N a nL E pc' L (.int v :: st)) : X Y s m D cl N a nL E pc L st := by
  obtain ⟨⟨p, e, below, meth, c, rfl, ⟨hx, hb, hml, hown, hts⟩, hr, hlk⟩, hcn, hsn, hK, hJ, hNs⟩ := Γ
  subst hp
  intro H locs ls h1 h2 h3
  exact lv_sipush hx hb hd hv (kk H locs ls h1 h2 h3)
theorem X_iload_n (Γ : XC Y l R s m args cc nL own ret cn sn QQ D cl tys N a) {k : Fin 4} {i : Nat} {x : Int32} (hd : decode cc pc = .ok (.iload_n k, 1)) (hi : (k : Nat) = i) (q : Nat) (hl : L[q]? = some (i, .int x)) (hp : pc + 1 = pc') (kk : X Y s m D cl N a nL E pc' L (.int x :: st)) : X Y s m D cl N a nL E pc L st := by
  obtain ⟨⟨p, e, below, meth, c, rfl, ⟨hx, hb, hml, hown, hts⟩, hr, hlk⟩, hcn, hsn, hK, hJ, hNs⟩ := Γ
  subst hp
  intro H locs ls h1 h2 h3
  exact lv_iload_n hx hb hd hi (lv_at h3 q hl) (kk H locs ls h1 h2 h3)
theorem X_iload (Γ : XC Y l R s m args cc nL own ret cn sn QQ D cl tys N a) {i : Nat} {x : Int32} (hd : decode cc pc = .ok (.iload i, 2)) (q : Nat) (hl : L[q]? = some (i, .int x)) (hp : pc + 2 = pc') (kk : X Y s m D cl N a nL E pc' L (.int x :: st)) : X Y s m D cl N a nL E pc L st := by
  obtain ⟨⟨p, e, below, meth, c, rfl, ⟨hx, hb, hml, hown, hts⟩, hr, hlk⟩, hcn, hsn, hK, hJ, hNs⟩ := Γ
  subst hp
  intro H locs ls h1 h2 h3
  exact lv_iload hx hb hd (lv_at h3 q hl) (kk H locs ls h1 h2 h3)
theorem X_istore_n (Γ : XC Y l R s m args cc nL own ret cn sn QQ D cl tys N a) {k : Fin 4} {i : Nat} {x : Int32} (hd : decode cc pc = .ok (.istore_n k, 1)) (hi : (k : Nat) = i) (hn : i < nL) (hl : (i, Value.int x) :: L.filter (fun q => !(q.1 == i) && !(q.1 + 1 == i && q.2.category == 2)) = L') (hp : pc + 1 = pc') (kk : X Y s m D cl N a nL E pc' L' st) : X Y s m D cl N a nL E pc L (.int x :: st) := by
  obtain ⟨⟨p, e, below, meth, c, rfl, ⟨hx, hb, hml, hown, hts⟩, hr, hlk⟩, hcn, hsn, hK, hJ, hNs⟩ := Γ
  subst hp
  intro H locs ls h1 h2 h3
  exact lv_istore_n hx hb hd hi h3 hn hl (fun ls' h' => kk H locs ls' h1 h2 h')
theorem X_istore (Γ : XC Y l R s m args cc nL own ret cn sn QQ D cl tys N a) {i : Nat} {x : Int32} (hd : decode cc pc = .ok (.istore i, 2)) (hn : i < nL) (hl : (i, Value.int x) :: L.filter (fun q => !(q.1 == i) && !(q.1 + 1 == i && q.2.category == 2)) = L') (hp : pc + 2 = pc') (kk : X Y s m D cl N a nL E pc' L' st) : X Y s m D cl N a nL E pc L (.int x :: st) := by
  obtain ⟨⟨p, e, below, meth, c, rfl, ⟨hx, hb, hml, hown, hts⟩, hr, hlk⟩, hcn, hsn, hK, hJ, hNs⟩ := Γ
  subst hp
  intro H locs ls h1 h2 h3
  exact lv_istore hx hb hd h3 hn hl (fun ls' h' => kk H locs ls' h1 h2 h')
theorem X_aload_n (Γ : XC Y l R s m args cc nL own ret cn sn QQ D cl tys N a) {k : Fin 4} {i : Nat} {x : Nat} (hd : decode cc pc = .ok (.aload_n k, 1)) (hi : (k : Nat) = i) (q : Nat) (hl : L[q]? = some (i, .ref x)) (hp : pc + 1 = pc') (kk : X Y s m D cl N a nL E pc' L (.ref x :: st)) : X Y s m D cl N a nL E pc L st := by
  obtain ⟨⟨p, e, below, meth, c, rfl, ⟨hx, hb, hml, hown, hts⟩, hr, hlk⟩, hcn, hsn, hK, hJ, hNs⟩ := Γ
  subst hp
  intro H locs ls h1 h2 h3
  exact lv_aload_n hx hb hd hi (lv_at h3 q hl) (kk H locs ls h1 h2 h3)
theorem X_aload (Γ : XC Y l R s m args cc nL own ret cn sn QQ D cl tys N a) {i : Nat} {x : Nat} (hd : decode cc pc = .ok (.aload i, 2)) (q : Nat) (hl : L[q]? = some (i, .ref x)) (hp : pc + 2 = pc') (kk : X Y s m D cl N a nL E pc' L (.ref x :: st)) : X Y s m D cl N a nL E pc L st := by
  obtain ⟨⟨p, e, below, meth, c, rfl, ⟨hx, hb, hml, hown, hts⟩, hr, hlk⟩, hcn, hsn, hK, hJ, hNs⟩ := Γ
  subst hp
  intro H locs ls h1 h2 h3
  exact lv_aload hx hb hd (lv_at h3 q hl) (kk H locs ls h1 h2 h3)
theorem X_astore_n (Γ : XC Y l R s m args cc nL own ret cn sn QQ D cl tys N a) {k : Fin 4} {i : Nat} {x : Nat} (hd : decode cc pc = .ok (.astore_n k, 1)) (hi : (k : Nat) = i) (hn : i < nL) (hl : (i, Value.ref x) :: L.filter (fun q => !(q.1 == i) && !(q.1 + 1 == i && q.2.category == 2)) = L') (hp : pc + 1 = pc') (kk : X Y s m D cl N a nL E pc' L' st) : X Y s m D cl N a nL E pc L (.ref x :: st) := by
  obtain ⟨⟨p, e, below, meth, c, rfl, ⟨hx, hb, hml, hown, hts⟩, hr, hlk⟩, hcn, hsn, hK, hJ, hNs⟩ := Γ
  subst hp
  intro H locs ls h1 h2 h3
  exact lv_astore_n hx hb hd hi h3 hn hl (fun ls' h' => kk H locs ls' h1 h2 h')
theorem X_astore (Γ : XC Y l R s m args cc nL own ret cn sn QQ D cl tys N a) {i : Nat} {x : Nat} (hd : decode cc pc = .ok (.astore i, 2)) (hn : i < nL) (hl : (i, Value.ref x) :: L.filter (fun q => !(q.1 == i) && !(q.1 + 1 == i && q.2.category == 2)) = L') (hp : pc + 2 = pc') (kk : X Y s m D cl N a nL E pc' L' st) : X Y s m D cl N a nL E pc L (.ref x :: st) := by
  obtain ⟨⟨p, e, below, meth, c, rfl, ⟨hx, hb, hml, hown, hts⟩, hr, hlk⟩, hcn, hsn, hK, hJ, hNs⟩ := Γ
  subst hp
  intro H locs ls h1 h2 h3
  exact lv_astore hx hb hd h3 hn hl (fun ls' h' => kk H locs ls' h1 h2 h')
theorem X_iinc (Γ : XC Y l R s m args cc nL own ret cn sn QQ D cl tys N a) {i : Nat} {n : Int} {x v : Int32} (hd : decode cc pc = .ok (.iinc i n, 3)) (q : Nat) (hq : L[q]? = some (i, .int x)) (hv : x + Int32.ofInt n = v) (hn : i < nL) (hl : (i, Value.int v) :: L.filter (fun q => !(q.1 == i) && !(q.1 + 1 == i && q.2.category == 2)) = L') (hp : pc + 3 = pc') (kk : X Y s m D cl N a nL E pc' L' st) : X Y s m D cl N a nL E pc L st := by
  obtain ⟨⟨p, e, below, meth, c, rfl, ⟨hx, hb, hml, hown, hts⟩, hr, hlk⟩, hcn, hsn, hK, hJ, hNs⟩ := Γ
  subst hp
  intro H locs ls h1 h2 h3
  exact lv_iinc hx hb hd h3 hq hv hn hl (fun ls' h' => kk H locs ls' h1 h2 h')
theorem X_iadd (Γ : XC Y l R s m args cc nL own ret cn sn QQ D cl tys N a) {x y : Int32} (hd : decode cc pc = .ok (.iadd, 1))  (hp : pc + 1 = pc') (kk : X Y s m D cl N a nL E pc' L (.int (x + y) :: st)) : X Y s m D cl N a nL E pc L (.int y :: .int x :: st) := by
  obtain ⟨⟨p, e, below, meth, c, rfl, ⟨hx, hb, hml, hown, hts⟩, hr, hlk⟩, hcn, hsn, hK, hJ, hNs⟩ := Γ
  subst hp
  intro H locs ls h1 h2 h3
  exact lv_iadd hx hb hd (kk H locs ls h1 h2 h3)
theorem X_isub (Γ : XC Y l R s m args cc nL own ret cn sn QQ D cl tys N a) {x y : Int32} (hd : decode cc pc = .ok (.isub, 1))  (hp : pc + 1 = pc') (kk : X Y s m D cl N a nL E pc' L (.int (x - y) :: st)) : X Y s m D cl N a nL E pc L (.int y :: .int x :: st) := by
  obtain ⟨⟨p, e, below, meth, c, rfl, ⟨hx, hb, hml, hown, hts⟩, hr, hlk⟩, hcn, hsn, hK, hJ, hNs⟩ := Γ
  subst hp
  intro H locs ls h1 h2 h3
  exact lv_isub hx hb hd (kk H locs ls h1 h2 h3)
theorem X_imul (Γ : XC Y l R s m args cc nL own ret cn sn QQ D cl tys N a) {x y : Int32} (hd : decode cc pc = .ok (.imul, 1))  (hp : pc + 1 = pc') (kk : X Y s m D cl N a nL E pc' L (.int (x * y) :: st)) : X Y s m D cl N a nL E pc L (.int y :: .int x :: st) := by
  obtain ⟨⟨p, e, below, meth, c, rfl, ⟨hx, hb, hml, hown, hts⟩, hr, hlk⟩, hcn, hsn, hK, hJ, hNs⟩ := Γ
  subst hp
  intro H locs ls h1 h2 h3
  exact lv_imul hx hb hd (kk H locs ls h1 h2 h3)
theorem X_iand (Γ : XC Y l R s m args cc nL own ret cn sn QQ D cl tys N a) {x y : Int32} (hd : decode cc pc = .ok (.iand, 1))  (hp : pc + 1 = pc') (kk : X Y s m D cl N a nL E pc' L (.int (x &&& y) :: st)) : X Y s m D cl N a nL E pc L (.int y :: .int x :: st) := by
  obtain ⟨⟨p, e, below, meth, c, rfl, ⟨hx, hb, hml, hown, hts⟩, hr, hlk⟩, hcn, hsn, hK, hJ, hNs⟩ := Γ
  subst hp
  intro H locs ls h1 h2 h3
  exact lv_iand hx hb hd (kk H locs ls h1 h2 h3)
theorem X_ior (Γ : XC Y l R s m args cc nL own ret cn sn QQ D cl tys N a) {x y : Int32} (hd : decode cc pc = .ok (.ior, 1))  (hp : pc + 1 = pc') (kk : X Y s m D cl N a nL E pc' L (.int (x ||| y) :: st)) : X Y s m D cl N a nL E pc L (.int y :: .int x :: st) := by
  obtain ⟨⟨p, e, below, meth, c, rfl, ⟨hx, hb, hml, hown, hts⟩, hr, hlk⟩, hcn, hsn, hK, hJ, hNs⟩ := Γ
  subst hp
  intro H locs ls h1 h2 h3
  exact lv_ior hx hb hd (kk H locs ls h1 h2 h3)
theorem X_ineg (Γ : XC Y l R s m args cc nL own ret cn sn QQ D cl tys N a) {x : Int32} (hd : decode cc pc = .ok (.ineg, 1))  (hp : pc + 1 = pc') (kk : X Y s m D cl N a nL E pc' L (.int (-x) :: st)) : X Y s m D cl N a nL E pc L (.int x :: st) := by
  obtain ⟨⟨p, e, below, meth, c, rfl, ⟨hx, hb, hml, hown, hts⟩, hr, hlk⟩, hcn, hsn, hK, hJ, hNs⟩ := Γ
  subst hp
  intro H locs ls h1 h2 h3
  exact lv_ineg hx hb hd (kk H locs ls h1 h2 h3)
theorem X_ishl (Γ : XC Y l R s m args cc nL own ret cn sn QQ D cl tys N a) {x y : Int32} (hd : decode cc pc = .ok (.ishl, 1))  (hp : pc + 1 = pc') (kk : X Y s m D cl N a nL E pc' L (.int (x <<< (y &&& 31)) :: st)) : X Y s m D cl N a nL E pc L (.int y :: .int x :: st) := by
  obtain ⟨⟨p, e, below, meth, c, rfl, ⟨hx, hb, hml, hown, hts⟩, hr, hlk⟩, hcn, hsn, hK, hJ, hNs⟩ := Γ
  subst hp
  intro H locs ls h1 h2 h3
  exact lv_ishl hx hb hd (kk H locs ls h1 h2 h3)
theorem X_ishr (Γ : XC Y l R s m args cc nL own ret cn sn QQ D cl tys N a) {x y : Int32} (hd : decode cc pc = .ok (.ishr, 1))  (hp : pc + 1 = pc') (kk : X Y s m D cl N a nL E pc' L (.int (x >>> (y &&& 31)) :: st)) : X Y s m D cl N a nL E pc L (.int y :: .int x :: st) := by
  obtain ⟨⟨p, e, below, meth, c, rfl, ⟨hx, hb, hml, hown, hts⟩, hr, hlk⟩, hcn, hsn, hK, hJ, hNs⟩ := Γ
  subst hp
  intro H locs ls h1 h2 h3
  exact lv_ishr hx hb hd (kk H locs ls h1 h2 h3)
theorem X_iushr (Γ : XC Y l R s m args cc nL own ret cn sn QQ D cl tys N a) {x y v : Int32} (hd : decode cc pc = .ok (.iushr, 1)) (hv : (x.toUInt32 >>> (y.toUInt32 &&& Int32.toUInt32 31)).toInt32 = v) (hp : pc + 1 = pc') (kk : X Y s m D cl N a nL E pc' L (.int v :: st)) : X Y s m D cl N a nL E pc L (.int y :: .int x :: st) := by
  obtain ⟨⟨p, e, below, meth, c, rfl, ⟨hx, hb, hml, hown, hts⟩, hr, hlk⟩, hcn, hsn, hK, hJ, hNs⟩ := Γ
  subst hp
  intro H locs ls h1 h2 h3
  exact lv_iushr hx hb hd hv (kk H locs ls h1 h2 h3)
theorem X_ldcw (Γ : XC Y l R s m args cc nL own ret cn sn QQ D cl tys N a) {index : Nat} {v : Int32} (hd : decode cc pc = .ok (.ldc_w index, 3)) (hc : Cond.constant own index v ∈ wsBig) (hp : pc + 3 = pc') (kk : X Y s m D cl N a nL E pc' L (.int v :: st)) : X Y s m D cl N a nL E pc L st := by
  obtain ⟨⟨p, e, below, meth, c, rfl, ⟨hx, hb, hml, hown, hts⟩, hr, hlk⟩, hcn, hsn, hK, hJ, hNs⟩ := Γ
  subst hp
  intro H locs ls h1 h2 h3
  exact lv_ldcw hx hb hown (hts _ hc) hd (kk H locs ls h1 h2 h3)
theorem X_alen (Γ : XC Y l R s m args cc nL own ret cn sn QQ D cl tys N a) {n len : Nat} {cA : ClassId} {ty : FieldType} {v : Int32} {f : Nat → Int32} (hd : decode cc pc = .ok (.arraylength, 1)) (hn : n < N) (hk : E n = .inl (cA, len, .inl f)) (t0 : Nat) (ht : tys[t0]? = some (cA, ty)) (hv : Int32.ofNat len = v) (hp : pc + 1 = pc') (kk : X Y s m D cl N a nL E pc' L (.int v :: st)) : X Y s m D cl N a nL E pc L (.ref (a n) :: st) := by
  obtain ⟨⟨p, e, below, meth, c, rfl, ⟨hx, hb, hml, hown, hts⟩, hr, hlk⟩, hcn, hsn, hK, hJ, hNs⟩ := Γ
  subst hp
  intro H locs ls h1 h2 h3
  exact va_alen hx hb hK h1 n t0 ((xw_at hn).trans (congrArg (fun e9 => some (a n, e9)) hk)) ht hv hd (kk H locs ls h1 h2 h3)
theorem X_dup (Γ : XC Y l R s m args cc nL own ret cn sn QQ D cl tys N a) {va : Value} (hd : decode cc pc = .ok (.dup, 1)) (hva : va.category = 1) (hp : pc + 1 = pc') (kk : X Y s m D cl N a nL E pc' L (va :: va :: st)) : X Y s m D cl N a nL E pc L (va :: st) := by
  obtain ⟨⟨p, e, below, meth, c, rfl, ⟨hx, hb, hml, hown, hts⟩, hr, hlk⟩, hcn, hsn, hK, hJ, hNs⟩ := Γ
  subst hp
  intro H locs ls h1 h2 h3
  exact lv_dup hx hb hd hva (kk H locs ls h1 h2 h3)
theorem X_dup_x1 (Γ : XC Y l R s m args cc nL own ret cn sn QQ D cl tys N a) {va vb : Value} (hd : decode cc pc = .ok (.dup_x1, 1)) (hva : va.category = 1) (hvb : vb.category = 1) (hp : pc + 1 = pc') (kk : X Y s m D cl N a nL E pc' L (va :: vb :: va :: st)) : X Y s m D cl N a nL E pc L (va :: vb :: st) := by
  obtain ⟨⟨p, e, below, meth, c, rfl, ⟨hx, hb, hml, hown, hts⟩, hr, hlk⟩, hcn, hsn, hK, hJ, hNs⟩ := Γ
  subst hp
  intro H locs ls h1 h2 h3
  exact lv_dup_x1 hx hb hd hva hvb (kk H locs ls h1 h2 h3)
theorem X_dup2 (Γ : XC Y l R s m args cc nL own ret cn sn QQ D cl tys N a) {va vb : Value} (hd : decode cc pc = .ok (.dup2, 1)) (hva : va.category = 1) (hvb : vb.category = 1) (hp : pc + 1 = pc') (kk : X Y s m D cl N a nL E pc' L (va :: vb :: va :: vb :: st)) : X Y s m D cl N a nL E pc L (va :: vb :: st) := by
  obtain ⟨⟨p, e, below, meth, c, rfl, ⟨hx, hb, hml, hown, hts⟩, hr, hlk⟩, hcn, hsn, hK, hJ, hNs⟩ := Γ
  subst hp
  intro H locs ls h1 h2 h3
  exact lv_dup2_11 hx hb hd hva hvb (kk H locs ls h1 h2 h3)
theorem X_pop (Γ : XC Y l R s m args cc nL own ret cn sn QQ D cl tys N a) {va : Value} (hd : decode cc pc = .ok (.pop, 1)) (hva : va.category = 1) (hp : pc + 1 = pc') (kk : X Y s m D cl N a nL E pc' L st) : X Y s m D cl N a nL E pc L (va :: st) := by
  obtain ⟨⟨p, e, below, meth, c, rfl, ⟨hx, hb, hml, hown, hts⟩, hr, hlk⟩, hcn, hsn, hK, hJ, hNs⟩ := Γ
  subst hp
  intro H locs ls h1 h2 h3
  exact lv_pop hx hb hd hva (kk H locs ls h1 h2 h3)
theorem X_null (Γ : XC Y l R s m args cc nL own ret cn sn QQ D cl tys N a)  (hd : decode cc pc = .ok (.aconst_null, 1))  (hp : pc + 1 = pc') (kk : X Y s m D cl N a nL E pc' L (.null :: st)) : X Y s m D cl N a nL E pc L st := by
  obtain ⟨⟨p, e, below, meth, c, rfl, ⟨hx, hb, hml, hown, hts⟩, hr, hlk⟩, hcn, hsn, hK, hJ, hNs⟩ := Γ
  subst hp
  intro H locs ls h1 h2 h3
  exact lv_null hx hb hd (kk H locs ls h1 h2 h3)
theorem X_aload_nN (Γ : XC Y l R s m args cc nL own ret cn sn QQ D cl tys N a) {k : Fin 4} {i : Nat} (hd : decode cc pc = .ok (.aload_n k, 1)) (hi : (k : Nat) = i) (q : Nat) (hl : L[q]? = some (i, .null)) (hp : pc + 1 = pc') (kk : X Y s m D cl N a nL E pc' L (.null :: st)) : X Y s m D cl N a nL E pc L st := by
  obtain ⟨⟨p, e, below, meth, c, rfl, ⟨hx, hb, hml, hown, hts⟩, hr, hlk⟩, hcn, hsn, hK, hJ, hNs⟩ := Γ
  subst hp
  intro H locs ls h1 h2 h3
  exact lv_aload_nN hx hb hd hi (lv_at h3 q hl) (kk H locs ls h1 h2 h3)
theorem X_aloadN (Γ : XC Y l R s m args cc nL own ret cn sn QQ D cl tys N a) {i : Nat} (hd : decode cc pc = .ok (.aload i, 2)) (q : Nat) (hl : L[q]? = some (i, .null)) (hp : pc + 2 = pc') (kk : X Y s m D cl N a nL E pc' L (.null :: st)) : X Y s m D cl N a nL E pc L st := by
  obtain ⟨⟨p, e, below, meth, c, rfl, ⟨hx, hb, hml, hown, hts⟩, hr, hlk⟩, hcn, hsn, hK, hJ, hNs⟩ := Γ
  subst hp
  intro H locs ls h1 h2 h3
  exact lv_aloadN hx hb hd (lv_at h3 q hl) (kk H locs ls h1 h2 h3)
theorem X_astore_nN (Γ : XC Y l R s m args cc nL own ret cn sn QQ D cl tys N a) {k : Fin 4} {i : Nat} (hd : decode cc pc = .ok (.astore_n k, 1)) (hi : (k : Nat) = i) (hn : i < nL) (hl : (i, Value.null) :: L.filter (fun q => !(q.1 == i) && !(q.1 + 1 == i && q.2.category == 2)) = L') (hp : pc + 1 = pc') (kk : X Y s m D cl N a nL E pc' L' st) : X Y s m D cl N a nL E pc L (.null :: st) := by
  obtain ⟨⟨p, e, below, meth, c, rfl, ⟨hx, hb, hml, hown, hts⟩, hr, hlk⟩, hcn, hsn, hK, hJ, hNs⟩ := Γ
  subst hp
  intro H locs ls h1 h2 h3
  exact lv_astore_nN hx hb hd hi h3 hn hl (fun ls' h' => kk H locs ls' h1 h2 h')
theorem X_astoreN (Γ : XC Y l R s m args cc nL own ret cn sn QQ D cl tys N a) {i : Nat} (hd : decode cc pc = .ok (.astore i, 2)) (hn : i < nL) (hl : (i, Value.null) :: L.filter (fun q => !(q.1 == i) && !(q.1 + 1 == i && q.2.category == 2)) = L') (hp : pc + 2 = pc') (kk : X Y s m D cl N a nL E pc' L' st) : X Y s m D cl N a nL E pc L (.null :: st) := by
  obtain ⟨⟨p, e, below, meth, c, rfl, ⟨hx, hb, hml, hown, hts⟩, hr, hlk⟩, hcn, hsn, hK, hJ, hNs⟩ := Γ
  subst hp
  intro H locs ls h1 h2 h3
  exact lv_astoreN hx hb hd h3 hn hl (fun ls' h' => kk H locs ls' h1 h2 h')
theorem X_goto (Γ : XC Y l R s m args cc nL own ret cn sn QQ D cl tys N a) {off : Int} (hd : decode cc pc = .ok (.goto off, 3)) (ht : (pc : Int) + off = (pc' : Int)) (kk : X Y s m D cl N a nL E pc' L st) : X Y s m D cl N a nL E pc L st := by
  obtain ⟨⟨p, e, below, meth, c, rfl, ⟨hx, hb, hml, hown, hts⟩, hr, hlk⟩, hcn, hsn, hK, hJ, hNs⟩ := Γ
  intro H locs ls h1 h2 h3
  exact lv_goto hx hb hd ht (kk H locs ls h1 h2 h3)
theorem X_if_eq (Γ : XC Y l R s m args cc nL own ret cn sn QQ D cl tys N a) {x : Int32} {off : Int} {tgt : Nat} (hd : decode cc pc = .ok (.ifCond .eq off, 3)) (ht : (pc : Int) + off = (tgt : Int)) (hp : pc + 3 = pc') (kt : x = 0 → X Y s m D cl N a nL E tgt L st) (kf : ¬ x = 0 → X Y s m D cl N a nL E pc' L st) : X Y s m D cl N a nL E pc L (.int x :: st) := by
  obtain ⟨⟨p, e, below, meth, c, rfl, ⟨hx, hb, hml, hown, hts⟩, hr, hlk⟩, hcn, hsn, hK, hJ, hNs⟩ := Γ
  subst hp
  intro H locs ls h1 h2 h3
  exact lv_if_eq hx hb hd ht (fun h => kt h H locs ls h1 h2 h3) (fun h => kf h H locs ls h1 h2 h3)
theorem X_icmp_eq (Γ : XC Y l R s m args cc nL own ret cn sn QQ D cl tys N a) {x y : Int32} {off : Int} {tgt : Nat} (hd : decode cc pc = .ok (.if_icmp .eq off, 3)) (ht : (pc : Int) + off = (tgt : Int)) (hp : pc + 3 = pc') (kt : x = y → X Y s m D cl N a nL E tgt L st) (kf : ¬ x = y → X Y s m D cl N a nL E pc' L st) : X Y s m D cl N a nL E pc L (.int y :: .int x :: st) := by
  obtain ⟨⟨p, e, below, meth, c, rfl, ⟨hx, hb, hml, hown, hts⟩, hr, hlk⟩, hcn, hsn, hK, hJ, hNs⟩ := Γ
  subst hp
  intro H locs ls h1 h2 h3
  exact lv_icmp_eq hx hb hd ht (fun h => kt h H locs ls h1 h2 h3) (fun h => kf h H locs ls h1 h2 h3)
theorem X_if_ne (Γ : XC Y l R s m args cc nL own ret cn sn QQ D cl tys N a) {x : Int32} {off : Int} {tgt : Nat} (hd : decode cc pc = .ok (.ifCond .ne off, 3)) (ht : (pc : Int) + off = (tgt : Int)) (hp : pc + 3 = pc') (kt : ¬ x = 0 → X Y s m D cl N a nL E tgt L st) (kf : x = 0 → X Y s m D cl N a nL E pc' L st) : X Y s m D cl N a nL E pc L (.int x :: st) := by
  obtain ⟨⟨p, e, below, meth, c, rfl, ⟨hx, hb, hml, hown, hts⟩, hr, hlk⟩, hcn, hsn, hK, hJ, hNs⟩ := Γ
  subst hp
  intro H locs ls h1 h2 h3
  exact lv_if_ne hx hb hd ht (fun h => kt h H locs ls h1 h2 h3) (fun h => kf h H locs ls h1 h2 h3)
theorem X_icmp_ne (Γ : XC Y l R s m args cc nL own ret cn sn QQ D cl tys N a) {x y : Int32} {off : Int} {tgt : Nat} (hd : decode cc pc = .ok (.if_icmp .ne off, 3)) (ht : (pc : Int) + off = (tgt : Int)) (hp : pc + 3 = pc') (kt : ¬ x = y → X Y s m D cl N a nL E tgt L st) (kf : x = y → X Y s m D cl N a nL E pc' L st) : X Y s m D cl N a nL E pc L (.int y :: .int x :: st) := by
  obtain ⟨⟨p, e, below, meth, c, rfl, ⟨hx, hb, hml, hown, hts⟩, hr, hlk⟩, hcn, hsn, hK, hJ, hNs⟩ := Γ
  subst hp
  intro H locs ls h1 h2 h3
  exact lv_icmp_ne hx hb hd ht (fun h => kt h H locs ls h1 h2 h3) (fun h => kf h H locs ls h1 h2 h3)
theorem X_if_lt (Γ : XC Y l R s m args cc nL own ret cn sn QQ D cl tys N a) {x : Int32} {off : Int} {tgt : Nat} (hd : decode cc pc = .ok (.ifCond .lt off, 3)) (ht : (pc : Int) + off = (tgt : Int)) (hp : pc + 3 = pc') (kt : x < 0 → X Y s m D cl N a nL E tgt L st) (kf : ¬ x < 0 → X Y s m D cl N a nL E pc' L st) : X Y s m D cl N a nL E pc L (.int x :: st) := by
  obtain ⟨⟨p, e, below, meth, c, rfl, ⟨hx, hb, hml, hown, hts⟩, hr, hlk⟩, hcn, hsn, hK, hJ, hNs⟩ := Γ
  subst hp
  intro H locs ls h1 h2 h3
  exact lv_if_lt hx hb hd ht (fun h => kt h H locs ls h1 h2 h3) (fun h => kf h H locs ls h1 h2 h3)
theorem X_icmp_lt (Γ : XC Y l R s m args cc nL own ret cn sn QQ D cl tys N a) {x y : Int32} {off : Int} {tgt : Nat} (hd : decode cc pc = .ok (.if_icmp .lt off, 3)) (ht : (pc : Int) + off = (tgt : Int)) (hp : pc + 3 = pc') (kt : x < y → X Y s m D cl N a nL E tgt L st) (kf : ¬ x < y → X Y s m D cl N a nL E pc' L st) : X Y s m D cl N a nL E pc L (.int y :: .int x :: st) := by
  obtain ⟨⟨p, e, below, meth, c, rfl, ⟨hx, hb, hml, hown, hts⟩, hr, hlk⟩, hcn, hsn, hK, hJ, hNs⟩ := Γ
  subst hp
  intro H locs ls h1 h2 h3
  exact lv_icmp_lt hx hb hd ht (fun h => kt h H locs ls h1 h2 h3) (fun h => kf h H locs ls h1 h2 h3)
theorem X_if_ge (Γ : XC Y l R s m args cc nL own ret cn sn QQ D cl tys N a) {x : Int32} {off : Int} {tgt : Nat} (hd : decode cc pc = .ok (.ifCond .ge off, 3)) (ht : (pc : Int) + off = (tgt : Int)) (hp : pc + 3 = pc') (kt : 0 ≤ x → X Y s m D cl N a nL E tgt L st) (kf : ¬ 0 ≤ x → X Y s m D cl N a nL E pc' L st) : X Y s m D cl N a nL E pc L (.int x :: st) := by
  obtain ⟨⟨p, e, below, meth, c, rfl, ⟨hx, hb, hml, hown, hts⟩, hr, hlk⟩, hcn, hsn, hK, hJ, hNs⟩ := Γ
  subst hp
  intro H locs ls h1 h2 h3
  exact lv_if_ge hx hb hd ht (fun h => kt h H locs ls h1 h2 h3) (fun h => kf h H locs ls h1 h2 h3)
theorem X_icmp_ge (Γ : XC Y l R s m args cc nL own ret cn sn QQ D cl tys N a) {x y : Int32} {off : Int} {tgt : Nat} (hd : decode cc pc = .ok (.if_icmp .ge off, 3)) (ht : (pc : Int) + off = (tgt : Int)) (hp : pc + 3 = pc') (kt : y ≤ x → X Y s m D cl N a nL E tgt L st) (kf : ¬ y ≤ x → X Y s m D cl N a nL E pc' L st) : X Y s m D cl N a nL E pc L (.int y :: .int x :: st) := by
  obtain ⟨⟨p, e, below, meth, c, rfl, ⟨hx, hb, hml, hown, hts⟩, hr, hlk⟩, hcn, hsn, hK, hJ, hNs⟩ := Γ
  subst hp
  intro H locs ls h1 h2 h3
  exact lv_icmp_ge hx hb hd ht (fun h => kt h H locs ls h1 h2 h3) (fun h => kf h H locs ls h1 h2 h3)
theorem X_if_gt (Γ : XC Y l R s m args cc nL own ret cn sn QQ D cl tys N a) {x : Int32} {off : Int} {tgt : Nat} (hd : decode cc pc = .ok (.ifCond .gt off, 3)) (ht : (pc : Int) + off = (tgt : Int)) (hp : pc + 3 = pc') (kt : 0 < x → X Y s m D cl N a nL E tgt L st) (kf : ¬ 0 < x → X Y s m D cl N a nL E pc' L st) : X Y s m D cl N a nL E pc L (.int x :: st) := by
  obtain ⟨⟨p, e, below, meth, c, rfl, ⟨hx, hb, hml, hown, hts⟩, hr, hlk⟩, hcn, hsn, hK, hJ, hNs⟩ := Γ
  subst hp
  intro H locs ls h1 h2 h3
  exact lv_if_gt hx hb hd ht (fun h => kt h H locs ls h1 h2 h3) (fun h => kf h H locs ls h1 h2 h3)
theorem X_icmp_gt (Γ : XC Y l R s m args cc nL own ret cn sn QQ D cl tys N a) {x y : Int32} {off : Int} {tgt : Nat} (hd : decode cc pc = .ok (.if_icmp .gt off, 3)) (ht : (pc : Int) + off = (tgt : Int)) (hp : pc + 3 = pc') (kt : y < x → X Y s m D cl N a nL E tgt L st) (kf : ¬ y < x → X Y s m D cl N a nL E pc' L st) : X Y s m D cl N a nL E pc L (.int y :: .int x :: st) := by
  obtain ⟨⟨p, e, below, meth, c, rfl, ⟨hx, hb, hml, hown, hts⟩, hr, hlk⟩, hcn, hsn, hK, hJ, hNs⟩ := Γ
  subst hp
  intro H locs ls h1 h2 h3
  exact lv_icmp_gt hx hb hd ht (fun h => kt h H locs ls h1 h2 h3) (fun h => kf h H locs ls h1 h2 h3)
theorem X_if_le (Γ : XC Y l R s m args cc nL own ret cn sn QQ D cl tys N a) {x : Int32} {off : Int} {tgt : Nat} (hd : decode cc pc = .ok (.ifCond .le off, 3)) (ht : (pc : Int) + off = (tgt : Int)) (hp : pc + 3 = pc') (kt : x ≤ 0 → X Y s m D cl N a nL E tgt L st) (kf : ¬ x ≤ 0 → X Y s m D cl N a nL E pc' L st) : X Y s m D cl N a nL E pc L (.int x :: st) := by
  obtain ⟨⟨p, e, below, meth, c, rfl, ⟨hx, hb, hml, hown, hts⟩, hr, hlk⟩, hcn, hsn, hK, hJ, hNs⟩ := Γ
  subst hp
  intro H locs ls h1 h2 h3
  exact lv_if_le hx hb hd ht (fun h => kt h H locs ls h1 h2 h3) (fun h => kf h H locs ls h1 h2 h3)
theorem X_icmp_le (Γ : XC Y l R s m args cc nL own ret cn sn QQ D cl tys N a) {x y : Int32} {off : Int} {tgt : Nat} (hd : decode cc pc = .ok (.if_icmp .le off, 3)) (ht : (pc : Int) + off = (tgt : Int)) (hp : pc + 3 = pc') (kt : x ≤ y → X Y s m D cl N a nL E tgt L st) (kf : ¬ x ≤ y → X Y s m D cl N a nL E pc' L st) : X Y s m D cl N a nL E pc L (.int y :: .int x :: st) := by
  obtain ⟨⟨p, e, below, meth, c, rfl, ⟨hx, hb, hml, hown, hts⟩, hr, hlk⟩, hcn, hsn, hK, hJ, hNs⟩ := Γ
  subst hp
  intro H locs ls h1 h2 h3
  exact lv_icmp_le hx hb hd ht (fun h => kt h H locs ls h1 h2 h3) (fun h => kf h H locs ls h1 h2 h3)
theorem X_ifnull (Γ : XC Y l R s m args cc nL own ret cn sn QQ D cl tys N a) {x : Nat} {off : Int} (hd : decode cc pc = .ok (.ifnull off, 3)) (hp : pc + 3 = pc') (kk : X Y s m D cl N a nL E pc' L st) : X Y s m D cl N a nL E pc L (.ref x :: st) := by
  obtain ⟨⟨p, e, below, meth, c, rfl, ⟨hx, hb, hml, hown, hts⟩, hr, hlk⟩, hcn, hsn, hK, hJ, hNs⟩ := Γ
  subst hp
  intro H locs ls h1 h2 h3
  exact lv_ifnull hx hb hd (kk H locs ls h1 h2 h3)
theorem X_ifnullN (Γ : XC Y l R s m args cc nL own ret cn sn QQ D cl tys N a) {off : Int} (hd : decode cc pc = .ok (.ifnull off, 3)) (ht : (pc : Int) + off = (pc' : Int)) (kk : X Y s m D cl N a nL E pc' L st) : X Y s m D cl N a nL E pc L (.null :: st) := by
  obtain ⟨⟨p, e, below, meth, c, rfl, ⟨hx, hb, hml, hown, hts⟩, hr, hlk⟩, hcn, hsn, hK, hJ, hNs⟩ := Γ
  intro H locs ls h1 h2 h3
  exact lv_ifnullN hx hb hd ht (kk H locs ls h1 h2 h3)
theorem X_ifnonnull (Γ : XC Y l R s m args cc nL own ret cn sn QQ D cl tys N a) {x : Nat} {off : Int} (hd : decode cc pc = .ok (.ifnonnull off, 3)) (ht : (pc : Int) + off = (pc' : Int)) (kk : X Y s m D cl N a nL E pc' L st) : X Y s m D cl N a nL E pc L (.ref x :: st) := by
  obtain ⟨⟨p, e, below, meth, c, rfl, ⟨hx, hb, hml, hown, hts⟩, hr, hlk⟩, hcn, hsn, hK, hJ, hNs⟩ := Γ
  intro H locs ls h1 h2 h3
  exact lv_ifnonnull hx hb hd ht (kk H locs ls h1 h2 h3)
theorem X_ifnonnullN (Γ : XC Y l R s m args cc nL own ret cn sn QQ D cl tys N a) {off : Int} (hd : decode cc pc = .ok (.ifnonnull off, 3)) (hp : pc + 3 = pc') (kk : X Y s m D cl N a nL E pc' L st) : X Y s m D cl N a nL E pc L (.null :: st) := by
  obtain ⟨⟨p, e, below, meth, c, rfl, ⟨hx, hb, hml, hown, hts⟩, hr, hlk⟩, hcn, hsn, hK, hJ, hNs⟩ := Γ
  subst hp
  intro H locs ls h1 h2 h3
  exact lv_ifnonnullN hx hb hd (kk H locs ls h1 h2 h3)
theorem X_loc (ks : List Nat) (hl : lv_pick L ks = L') (kk : X Y s m D cl N a nL E pc L' st) : X Y s m D cl N a nL E pc L st := fun H locs ls h1 h2 h3 => kk H locs ls h1 h2 (lv_sub h3 ks hl)
theorem X_tableIn (Γ : XC Y l R s m args cc nL own ret cn sn QQ D cl tys N a) {dflt lo hi : Int} {offs : Array Int} {len : Nat} {x v : Int32} {off : Int} (hd : decode cc pc = .ok (.tableswitch dflt lo hi offs, len)) (hx0 : x = v) (e1 : ¬ v.toInt < lo) (e2 : ¬ hi < v.toInt) (ho : offs[(v.toInt - lo).toNat]? = some off) (ht : (pc : Int) + off = (pc' : Int)) (kk : X Y s m D cl N a nL E pc' L st) : X Y s m D cl N a nL E pc L (.int x :: st) := by
  subst hx0
  obtain ⟨⟨p, e, below, meth, c, rfl, ⟨hx, hb, hml, hown, hts⟩, hr, hlk⟩, hcn, hsn, hK, hJ, hNs⟩ := Γ
  intro H locs ls h1 h2 h3
  exact lv_tableIn hx hb hd e1 e2 ho ht (kk H locs ls h1 h2 h3)
theorem X_tableOut (Γ : XC Y l R s m args cc nL own ret cn sn QQ D cl tys N a) {dflt lo hi : Int} {offs : Array Int} {len : Nat} {x : Int32} (hd : decode cc pc = .ok (.tableswitch dflt lo hi offs, len)) (h : x.toInt < lo ∨ hi < x.toInt) (ht : (pc : Int) + dflt = (pc' : Int)) (kk : X Y s m D cl N a nL E pc' L st) : X Y s m D cl N a nL E pc L (.int x :: st) := by
  obtain ⟨⟨p, e, below, meth, c, rfl, ⟨hx, hb, hml, hown, hts⟩, hr, hlk⟩, hcn, hsn, hK, hJ, hNs⟩ := Γ
  intro H locs ls h1 h2 h3
  exact lv_tableOut hx hb hd h ht (kk H locs ls h1 h2 h3)
theorem X_get (Γ : XC Y l R s m args cc nL own ret cn sn QQ D cl tys N a) {ref C : String} {T : u_T} {F n ci index : Nat} {fs : List Value} {v : Value} (hd : decode cc pc = .ok (.getfield index, 3)) (hn : n < N) (hk : E n = .inr (ci, fs)) (hc : cl[ci]? = some (C, T, F)) (hin : ∀ w ∈ u_ws C T F, w ∈ wsBig) (k : Nat) (hkF : k < F) (hlink : (Cond.fieldLink own index ref (T k).2.1 (T k).2.2.1) ∈ wsBig) (hsame : ref = (T k).1) (hv : fs[k]? = some v) (hp : pc + 3 = pc') (kk : X Y s m D cl N a nL E pc' L (v :: st)) : X Y s m D cl N a nL E pc L (.ref (a n) :: st) := by
  obtain ⟨⟨p, e, below, meth, c, rfl, ⟨hx, hb, hml, hown, hts⟩, hr, hlk⟩, hcn, hsn, hK, hJ, hNs⟩ := Γ
  subst hp
  intro H locs ls h1 h2 h3
  exact va_get hx hb hts hin hown hK h1 n ((xw_at hn).trans (congrArg (fun e9 => some (a n, e9)) hk)) hc k hkF (hts _ hlink) (fun x9 h9 => by rw [hsame]; exact h9) hv hd (kk H locs ls h1 h2 h3)
theorem X_put (Γ : XC Y l R s m args cc nL own ret cn sn QQ D cl tys N a) {ref C : String} {T : u_T} {F n ci index : Nat} {fs : List Value} {v : Int32} {ty : FieldType} (hd : decode cc pc = .ok (.putfield index, 3)) (hn : n < N) (hk : K n (G n) = .inr (ci, fs)) (hc : cl[ci]? = some (C, T, F)) (hin : ∀ w ∈ u_ws C T F, w ∈ wsBig) (k : Nat) (hkF : k < F) (hlink : (Cond.fieldLink own index ref (T k).2.1 (T k).2.2.1) ∈ wsBig) (hsame : ref = (T k).1) (ty0 : Nat → FieldType) (hty : ∀ k, k < F → parseFieldDescriptor (T k).2.2.1 = some (ty0 k)) (hnm : ∀ a, a < F → ∀ b, b < F → a ≠ b → (T a).2.1 ≠ (T b).2.1) (hfin : (T k).2.2.2 = false) (hde : parseFieldDescriptor (T k).2.2.1 = some ty) (hna : narrow ty (.int v) = .int v) (hfi : fits ty (.int v) = true) (hl : k < fs.length) (hk' : .inr (ci, fs.set k (.int v)) = K n (va_up (G n) k v)) (hp : pc + 3 = pc') (kk : X Y s m D cl N a nL (kg K (g2 G n k v)) pc' L st) : X Y s m D cl N a nL (kg K G) pc L (.int v :: .ref (a n) :: st) := by
  obtain ⟨⟨p, e, below, meth, c, rfl, ⟨hx, hb, hml, hown, hts⟩, hr, hlk⟩, hcn, hsn, hK, hJ, hNs⟩ := Γ
  subst hp
  intro H locs ls h1 h2 h3
  refine va_put hx hb hts hin ty0 hty hnm hown hK h1 (xD hJ) h2 n ((xw_at hn).trans (congrArg (fun e9 => some (a n, e9)) hk)) hc k hkF (hts _ hlink) (fun x9 h9 => by rw [hsame]; exact h9) hfin hde hna hfi hl hd (fun H1 locs1 q1 q2 q3 => ?_)
  rw [xw_set hn hk'] at q1
  exact kk H1 locs1 ls q1 q3 h3
theorem X_getN (Γ : XC Y l R s m args cc nL own ret cn sn QQ D cl tys N a) {ref C host : String} {T : u_T} {F n ci index : Nat} {fs : List Value} {v : Value} (hd : decode cc pc = .ok (.getfield index, 3)) (hn : n < N) (hk : E n = .inr (ci, fs)) (hc : cl[ci]? = some (C, T, F)) (hin : ∀ w ∈ u_ws C T F, w ∈ wsBig) (k : Nat) (hkF : k < F) (hlink : (Cond.fieldLinkNest own index ref (T k).2.1 (T k).2.2.1 host) ∈ xnl) (hsame : ref = (T k).1) (hv : fs[k]? = some v) (hp : pc + 3 = pc') (kk : X Y s m D cl N a nL E pc' L (v :: st)) : X Y s m D cl N a nL E pc L (.ref (a n) :: st) := by
  obtain ⟨⟨p, e, below, meth, c, rfl, ⟨hx, hb, hml, hown, hts⟩, hr, hlk⟩, hcn, hsn, hK, hJ, hNs⟩ := Γ
  subst hp
  intro H locs ls h1 h2 h3
  exact va_getN hx hb hts hin hown hK h1 n ((xw_at hn).trans (congrArg (fun e9 => some (a n, e9)) hk)) hc k hkF (va_Nw.use rfl (hNs _ hlink)) (fun x9 h9 => by rw [hsame]; exact h9) hv hd (kk H locs ls h1 h2 h3)
theorem X_putN (Γ : XC Y l R s m args cc nL own ret cn sn QQ D cl tys N a) {ref C host : String} {T : u_T} {F n ci index : Nat} {fs : List Value} {v : Int32} {ty : FieldType} (hd : decode cc pc = .ok (.putfield index, 3)) (hn : n < N) (hk : K n (G n) = .inr (ci, fs)) (hc : cl[ci]? = some (C, T, F)) (hin : ∀ w ∈ u_ws C T F, w ∈ wsBig) (k : Nat) (hkF : k < F) (hlink : (Cond.fieldLinkNest own index ref (T k).2.1 (T k).2.2.1 host) ∈ xnl) (hsame : ref = (T k).1) (ty0 : Nat → FieldType) (hty : ∀ k, k < F → parseFieldDescriptor (T k).2.2.1 = some (ty0 k)) (hnm : ∀ a, a < F → ∀ b, b < F → a ≠ b → (T a).2.1 ≠ (T b).2.1) (hfin : (T k).2.2.2 = false) (hde : parseFieldDescriptor (T k).2.2.1 = some ty) (hna : narrow ty (.int v) = .int v) (hfi : fits ty (.int v) = true) (hl : k < fs.length) (hk' : .inr (ci, fs.set k (.int v)) = K n (va_up (G n) k v)) (hp : pc + 3 = pc') (kk : X Y s m D cl N a nL (kg K (g2 G n k v)) pc' L st) : X Y s m D cl N a nL (kg K G) pc L (.int v :: .ref (a n) :: st) := by
  obtain ⟨⟨p, e, below, meth, c, rfl, ⟨hx, hb, hml, hown, hts⟩, hr, hlk⟩, hcn, hsn, hK, hJ, hNs⟩ := Γ
  subst hp
  intro H locs ls h1 h2 h3
  refine va_putN hx hb hts hin ty0 hty hnm hown hK h1 (xD hJ) h2 n ((xw_at hn).trans (congrArg (fun e9 => some (a n, e9)) hk)) hc k hkF (va_Nw.use rfl (hNs _ hlink)) (fun x9 h9 => by rw [hsame]; exact h9) hfin hde hna hfi hl hd (fun H1 locs1 q1 q2 q3 => ?_)
  rw [xw_set hn hk'] at q1
  exact kk H1 locs1 ls q1 q3 h3
theorem X_iald (Γ : XC Y l R s m args cc nL own ret cn sn QQ D cl tys N a) {n len : Nat} {cA : ClassId} {i v : Int32} {f : Nat → Int32} (hd : decode cc pc = .ok (.iaload, 1)) (hn : n < N) (hk : E n = .inl (cA, len, .inl f)) (t0 : Nat) (ht : tys[t0]? = some (cA, .int)) (hi : vp_in i len) (hv : f i.toNatClampNeg = v) (hp : pc + 1 = pc') (kk : X Y s m D cl N a nL E pc' L (.int v :: st)) : X Y s m D cl N a nL E pc L (.int i :: .ref (a n) :: st) := by
  obtain ⟨⟨p, e, below, meth, c, rfl, ⟨hx, hb, hml, hown, hts⟩, hr, hlk⟩, hcn, hsn, hK, hJ, hNs⟩ := Γ
  subst hv
  subst hp
  intro H locs ls h1 h2 h3
  exact va_iald hx hb hK h1 n t0 ((xw_at hn).trans (congrArg (fun e9 => some (a n, e9)) hk)) ht hi hd (kk H locs ls h1 h2 h3)
theorem X_iast (Γ : XC Y l R s m args cc nL own ret cn sn QQ D cl tys N a) {n len kx : Nat} {cA : ClassId} {i v : Int32} (hd : decode cc pc = .ok (.iastore, 1)) (hn : n < N) (hk : K n (G n) = .inl (cA, len, .inl (G n))) (t0 : Nat) (ht : tys[t0]? = some (cA, .int)) (hi : vp_in i len) (hk' : ∀ f, K n f = .inl (cA, len, .inl f)) (hx9 : i.toNatClampNeg = kx) (hp : pc + 1 = pc') (kk : X Y s m D cl N a nL (kg K (g2 G n kx v)) pc' L st) : X Y s m D cl N a nL (kg K G) pc L (.int v :: .int i :: .ref (a n) :: st) := by
  obtain ⟨⟨p, e, below, meth, c, rfl, ⟨hx, hb, hml, hown, hts⟩, hr, hlk⟩, hcn, hsn, hK, hJ, hNs⟩ := Γ
  subst hx9
  subst hp
  intro H locs ls h1 h2 h3
  refine va_iast hx hb hK h1 (xD hJ) h2 n t0 ((xw_at hn).trans (congrArg (fun e9 => some (a n, e9)) hk)) ht hi hd (fun H1 locs1 q1 q2 q3 => ?_)
  rw [xw_set (k := i.toNatClampNeg) (v := v) hn (by rw [hk']; rfl)] at q1
  exact kk H1 locs1 ls q1 q3 h3
theorem X_zald (Γ : XC Y l R s m args cc nL own ret cn sn QQ D cl tys N a) {n len : Nat} {cA : ClassId} {i v : Int32} {f : Nat → Int32} (hd : decode cc pc = .ok (.baload, 1)) (hn : n < N) (hk : E n = .inl (cA, len, .inl f)) (t0 : Nat) (ht : tys[t0]? = some (cA, .boolean)) (hi : vp_in i len) (hv : f i.toNatClampNeg = v) (hp : pc + 1 = pc') (kk : X Y s m D cl N a nL E pc' L (.int v :: st)) : X Y s m D cl N a nL E pc L (.int i :: .ref (a n) :: st) := by
  obtain ⟨⟨p, e, below, meth, c, rfl, ⟨hx, hb, hml, hown, hts⟩, hr, hlk⟩, hcn, hsn, hK, hJ, hNs⟩ := Γ
  subst hv
  subst hp
  intro H locs ls h1 h2 h3
  exact va_zald hx hb hK h1 n t0 ((xw_at hn).trans (congrArg (fun e9 => some (a n, e9)) hk)) ht hi hd (kk H locs ls h1 h2 h3)
theorem X_zast (Γ : XC Y l R s m args cc nL own ret cn sn QQ D cl tys N a) {n len kx : Nat} {cA : ClassId} {i v : Int32} (hd : decode cc pc = .ok (.bastore, 1)) (hn : n < N) (hk : K n (G n) = .inl (cA, len, .inl (G n))) (t0 : Nat) (ht : tys[t0]? = some (cA, .boolean)) (hi : vp_in i len) (hz : vp_nar .boolean v = v) (hk' : ∀ f, K n f = .inl (cA, len, .inl f)) (hx9 : i.toNatClampNeg = kx) (hp : pc + 1 = pc') (kk : X Y s m D cl N a nL (kg K (g2 G n kx v)) pc' L st) : X Y s m D cl N a nL (kg K G) pc L (.int v :: .int i :: .ref (a n) :: st) := by
  obtain ⟨⟨p, e, below, meth, c, rfl, ⟨hx, hb, hml, hown, hts⟩, hr, hlk⟩, hcn, hsn, hK, hJ, hNs⟩ := Γ
  subst hx9
  subst hp
  intro H locs ls h1 h2 h3
  refine va_zast hx hb hK h1 (xD hJ) h2 n t0 ((xw_at hn).trans (congrArg (fun e9 => some (a n, e9)) hk)) ht hi hd (fun H1 locs1 q1 q2 q3 => ?_)
  rw [hz] at q1
  rw [xw_set (k := i.toNatClampNeg) (v := v) hn (by rw [hk']; rfl)] at q1
  exact kk H1 locs1 ls q1 q3 h3
theorem X_aald (Γ : XC Y l R s m args cc nL own ret cn sn QQ D cl tys N a) {n len y : Nat} {cA : ClassId} {C : String} {i : Int32} {f : Nat → Option Nat} (hd : decode cc pc = .ok (.aaload, 1)) (hn : n < N) (hk : E n = .inl (cA, len, .inr (.inr (.inr (.inr f))))) (t0 : Nat) (ht : tys[t0]? = some (cA, .object C)) (hi : vp_in i len) (hf : f i.toNatClampNeg = some y) (hp : pc + 1 = pc') (kk : X Y s m D cl N a nL E pc' L (.ref y :: st)) : X Y s m D cl N a nL E pc L (.int i :: .ref (a n) :: st) := by
  obtain ⟨⟨p, e, below, meth, c, rfl, ⟨hx, hb, hml, hown, hts⟩, hr, hlk⟩, hcn, hsn, hK, hJ, hNs⟩ := Γ
  subst hp
  intro H locs ls h1 h2 h3
  refine va_aldq hx hb hK h1 n t0 ((xw_at hn).trans (congrArg (fun e9 => some (a n, e9)) hk)) ht hi hd ?_
  rw [hf]
  exact (kk H locs ls h1 h2 h3)
theorem X_aast (Γ : XC Y l R s m args cc nL own ret cn sn QQ D cl tys N a) {n len w ci : Nat} {cA : ClassId} {r : vw_C} {vs : List Value} {i : Int32} {f : Nat → Option Nat} {K' : Nat → (Nat → Int32) → va_E} (hd : decode cc pc = .ok (.aastore, 1)) (hn : n < N) (hk : K n (G n) = .inl (cA, len, .inr (.inr (.inr (.inr f))))) (t0 : Nat) (ht : tys[t0]? = some (cA, .object r.1)) (hw : w < N) (hkw : K w (G w) = .inr (ci, vs)) (hc : cl[ci]? = some r) (hi : vp_in i len) (hK' : ∀ j, j ≠ n → K' j = K j) (hKn : K' n (G n) = .inl (cA, len, .inr (.inr (.inr (.inr (va_up f i.toNatClampNeg (some (a w)))))))) (hp : pc + 1 = pc') (kk : X Y s m D cl N a nL (kg K' G) pc' L st) : X Y s m D cl N a nL (kg K G) pc L (.ref (a w) :: .int i :: .ref (a n) :: st) := by
  obtain ⟨⟨p, e, below, meth, c, rfl, ⟨hx, hb, hml, hown, hts⟩, hr, hlk⟩, hcn, hsn, hK, hJ, hNs⟩ := Γ
  subst hp
  intro H locs ls h1 h2 h3
  refine va_astq hx hb hK h1 (xD hJ) h2 n t0 w ci ((xw_at hn).trans (congrArg (fun e9 => some (a n, e9)) hk)) ht ((xw_at hw).trans (congrArg (fun e9 => some (a w, e9)) hkw)) hc hi hd (fun H1 locs1 q1 q2 q3 => kk H1 locs1 ls ?_ q3 h3)
  have hq : (xw N a (kg K G)).set n (a n, .inl (cA, len, .inr (.inr (.inr (.inr (va_up f i.toNatClampNeg (some (a w)))))))) = xw N a (kg K' G) := by
    rw [xw_setE hn]
    apply xw_eq
    intro j _
    by_cases hj : j = n
    · subst hj
      rw [va_up_self]
      exact hKn.symm
    · rw [va_up_ne _ _ hj]
      show K j (G j) = K' j (G j)
      rw [hK' j hj]
  rw [hq] at q1
  exact q1
/-- a contract's start and its end, over one world -/
abbrev xP (D : va_G) (cl : List vw_C) (tys : List (ClassId × FieldType)) (N : Nat) (a : Nat → Nat) (E : Nat → va_E) (av : List Value) : Array Value → State → Prop := va_Pc av (fun U => va_P D cl (xw N a E) U.heap ∧ va_K D cl tys U ∧ xN U)
abbrev xQi (D : va_G) (cl : List vw_C) (N : Nat) (a : Nat → Nat) (r : Int32) (E : Nat → va_E) : Array Value → State → Outcome → State → Prop := va_Qi (S := Unit) (fun x _ => x = r) (fun _ t => va_P D cl (xw N a E) t.heap) (xA N a)
abbrev xQv (D : va_G) (cl : List vw_C) (N : Nat) (a : Nat → Nat) (E : Nat → va_E) : Array Value → State → Outcome → State → Prop := va_Qv (S := Unit) (fun _ => True) (fun _ t => va_P D cl (xw N a E) t.heap) (xA N a)
abbrev xQq (D : va_G) (cl : List vw_C) (N : Nat) (a : Nat → Nat) (r : Option Nat) (E : Nat → va_E) : Array Value → State → Outcome → State → Prop := va_Qq (S := Unit) (fun x _ => x = r) (fun _ t => va_P D cl (xw N a E) t.heap) (xA N a)
theorem X_ireti {v r : Int32} (Γ : XC Y l R s m args cc nL own (some .int) cn sn (fun below => MQ below (xQi D cl N a r E') args s cn sn (xA N a)) D cl tys N a) (hd : decode cc pc = .ok (.ireturn, 1))  (hv : v = r) (hE' : E = E') : X Y s m D cl N a nL E pc L [.int v] := by
  subst hE'
  obtain ⟨⟨p, e, below, meth, c, rfl, ⟨hx, hb, hml, hown, hts⟩, hr, hlk⟩, hcn, hsn, hK, hJ, hNs⟩ := Γ
  intro H locs ls h1 h2 h3
  exact W.iret hx hb hr (fun t ht hW => ⟨⟨v, (), rfl, hv, by show va_P D cl (xw N a E) t.heap; rw [ht]; exact h1⟩, h2.F ht⟩) h2.2.2 hd hlk
theorem X_iretz {v r : Int32} (Γ : XC Y l R s m args cc nL own (some .boolean) cn sn (fun below => MQ below (xQi D cl N a r E') args s cn sn (xA N a)) D cl tys N a) (hd : decode cc pc = .ok (.ireturn, 1)) (hn : narrow .boolean (.int v) = .int v) (hv : v = r) (hE' : E = E') : X Y s m D cl N a nL E pc L [.int v] := by
  subst hE'
  obtain ⟨⟨p, e, below, meth, c, rfl, ⟨hx, hb, hml, hown, hts⟩, hr, hlk⟩, hcn, hsn, hK, hJ, hNs⟩ := Γ
  intro H locs ls h1 h2 h3
  exact W.zret hx hb hr hn (fun t ht hW => ⟨⟨v, (), rfl, hv, by show va_P D cl (xw N a E) t.heap; rw [ht]; exact h1⟩, h2.F ht⟩) h2.2.2 hd hlk
theorem X_vret (Γ : XC Y l R s m args cc nL own (none) cn sn (fun below => MQ below (xQv D cl N a E') args s cn sn (xA N a)) D cl tys N a) (hd : decode cc pc = .ok (.return_, 1)) (hE' : E = E') : X Y s m D cl N a nL E pc L [] := by
  subst hE'
  obtain ⟨⟨p, e, below, meth, c, rfl, ⟨hx, hb, hml, hown, hts⟩, hr, hlk⟩, hcn, hsn, hK, hJ, hNs⟩ := Γ
  intro H locs ls h1 h2 h3
  exact W.vret hx hb hr (fun t ht hW => ⟨⟨(), rfl, trivial, by show va_P D cl (xw N a E) t.heap; rw [ht]; exact h1⟩, h2.F ht⟩) h2.2.2 hd hlk
theorem X_aret {x r : Option Nat} {C : String} {v : Value} (Γ : XC Y l R s m args cc nL own (some (.object C)) cn sn (fun below => MQ below (xQq D cl N a r E') args s cn sn (xA N a)) D cl tys N a) (hd : decode cc pc = .ok (.areturn, 1)) (hx0 : v = va_rf x) (hv : x = r) (hE' : E = E') : X Y s m D cl N a nL E pc L [v] := by
  subst hE'
  subst hx0
  obtain ⟨⟨p, e, below, meth, c, rfl, ⟨hx, hb, hml, hown, hts⟩, hr, hlk⟩, hcn, hsn, hK, hJ, hNs⟩ := Γ
  intro H locs ls h1 h2 h3
  exact W.aret hx hb hr (Or.inl ⟨C, rfl⟩) (va_rf_or x) (fun t ht hW => ⟨⟨x, (), rfl, hv, by show va_P D cl (xw N a E) t.heap; rw [ht]; exact h1⟩, h2.F ht⟩) h2.2.2 hd hlk
theorem X_met {y : MethodName} {rm : Room} {Qc : Array Value → State → Outcome → State → Prop} {av : List Value} (hy : plainName y.cls = true) (ho : y.cls = own) (hlen : (lg_sl av).length ≤ nL) (hJ : xJ N a)
    (body : ∀ (Y : Heap → List Loc → JFrame → Prop) (s : State) (m : MethodId) (args : Array Value), XC Y l rm s m args cc nL own ret 0 0 (fun below => MQ below Qc args s 0 0 (xA N a)) D cl tys N a → X Y s m D cl N a nL E 0 (lv_args 0 av) []) : Met l y (Cond.code y cc nL ret :: wsBig) rm (xP D cl tys N a E av) Qc 0 0 (xA N a) := by
  subst ho
  refine Met.ofW (cc := cc) (maxL := nL) (ret := ret) hy rfl ?_
  intro p e s m args below meth c s₁ B hml hv
  obtain ⟨rfl, hP, hK, hNs⟩ := hv
  rw [lg_entry_eq]
  have hl := lv_entry av hlen
  exact body (fun H locs g => W p l e rm s m av.toArray below meth c H locs 0 0 (MQ below Qc av.toArray s 0 0 (xA N a)) g) s m av.toArray ⟨⟨p, e, below, meth, c, rfl, ⟨B.exec, B.bytes, hml, findClass_of_methodNamed B.named, fun w hw => atoms_spec (ws := Cond.code y cc nL ret :: wsBig) B.pre w (List.mem_cons_of_mem _ hw)⟩, B.returns, B.notSynchronized⟩, Nat.zero_le _, Nat.zero_le _, hK, hJ, hNs⟩ s.heap [] _ hP va_S.rf hl
theorem bigIn {y : MethodName} {bytes : ByteArray} {maxL : Nat} {rt : Option FieldType} (h : Cond.code y bytes maxL rt ∈ wsBig) : GoodIn wsBig (Cond.code y bytes maxL rt :: wsBig) := fun w hw => by
  rcases List.mem_cons.mp hw with rfl | h2
  · exact ⟨h, good_of_word (List.mem_filter.mp h).2⟩
  · exact ⟨h2, good_of_word (List.mem_filter.mp h2).2⟩
theorem X_callVi (Γ : XC Y l R s m args cc nL own ret cn sn QQ D cl tys N a) {y : MethodName} {bytes : ByteArray} {maxL n index : Nat} {rt : Option FieldType} {rm : Room} {As rest : List Value} {b ci : Nat} {q : vw_C} {fs : List Value} {C : String} {r : Int32} (hd : decode cc pc = .ok (.invokevirtual index, 3)) (hM : Met l y (Cond.code y bytes maxL rt :: wsBig) rm (xP D cl tys N a E (.ref (a b) :: As)) (xQi D cl N a r E') 0 0 (xA N a)) (hb0 : b < N) (hkb : E b = .inr (ci, fs)) (hcb : cl[ci]? = some q) (hCb : q.1 = C) (hl : Cond.methodLink own index y ∈ wsBig) (hi : Cond.instanceMethod y ∈ wsBig) (hs : Cond.selects C y y ∈ wsBig) (hini : Cond.initialized y.cls ∈ wsBig) (hco : Cond.code y bytes maxL rt ∈ wsBig) (hde : y.cls ≠ "java/lang/invoke/MethodHandle" ∧ y.cls ≠ "java/lang/invoke/VarHandle" ∧ (parseMethodDescriptor y.desc).map (fun d => d.parameters.length) = some n) (hR : rm.frames + 1 ≤ R.frames ∧ 8 + (maxL + 11) + rm.locals ≤ R.locals) (hz : rm.cells = 0 ∧ rm.slots = 0) (hn : As.length = n) (hst : (As.reverse ++ .ref (a b) :: rest) = st) (hrm : (rest.map fun v => v.category).sum ≤ 8) (hp : pc + 3 = pc') (kk : X Y s m D cl N a nL E' pc' L (.int r :: rest)) : X Y s m D cl N a nL E pc L st := by
  subst hst
  obtain ⟨⟨p, e, below, meth, c, rfl, ⟨hx, hb, hml, hown, hts⟩, hr, hlk⟩, hcn, hsn, hK, hJ, hNs⟩ := Γ
  subst hp
  intro H locs ls h1 h2 h3
  refine va_calli (va_runV (As := As) (rest := rest) ⟨hx, hb, hml, hown, hts⟩ hM ⟨callB_of n hts (bigIn hco) rfl hz.1 hz.2 (hts _ hini) (hts _ hl) hde hR, hts _ hi, hts _ hs⟩ ⟨fun a9 U g9 mk q9 => ⟨q9.1, q9.2.1, va_K.moved (u := U) (U := U.calling g9 mk a9) (Vm.Alike.refl U.vm) q9.2.2.1, xN.same (u := U) (U := U.calling g9 mk a9) rfl q9.2.2.2⟩, by rw [← hCb]; exact va_recv hK h1 hcb ((xw_at hb0).trans (congrArg (fun e9 => some (a b, e9)) hkb)), fun U hU hW => ⟨rfl, by rw [hU]; exact h1, va_K.moved hW.alike hK, xN.warm hW hNs⟩⟩ rfl hn h3.1 rfl (lv_room hrm) hd ⟨hcn, hsn⟩) h2 (fun q9 _ h9 => h9) (fun q9 h9 => h9) (fun r9 u t H1 locs1 ht hvm hpo hB hz9 hk hS => ?_)
  cases hpo
  replace hB : va_P D cl (xw N a E') t.heap := hB
  rw [ht] at hB
  exact kk H1 locs1 ls hB hS h3
theorem X_callVv (Γ : XC Y l R s m args cc nL own ret cn sn QQ D cl tys N a) {y : MethodName} {bytes : ByteArray} {maxL n index : Nat} {rt : Option FieldType} {rm : Room} {As rest : List Value} {b ci : Nat} {q : vw_C} {fs : List Value} {C : String}  (hd : decode cc pc = .ok (.invokevirtual index, 3)) (hM : Met l y (Cond.code y bytes maxL rt :: wsBig) rm (xP D cl tys N a E (.ref (a b) :: As)) (xQv D cl N a E') 0 0 (xA N a)) (hb0 : b < N) (hkb : E b = .inr (ci, fs)) (hcb : cl[ci]? = some q) (hCb : q.1 = C) (hl : Cond.methodLink own index y ∈ wsBig) (hi : Cond.instanceMethod y ∈ wsBig) (hs : Cond.selects C y y ∈ wsBig) (hini : Cond.initialized y.cls ∈ wsBig) (hco : Cond.code y bytes maxL rt ∈ wsBig) (hde : y.cls ≠ "java/lang/invoke/MethodHandle" ∧ y.cls ≠ "java/lang/invoke/VarHandle" ∧ (parseMethodDescriptor y.desc).map (fun d => d.parameters.length) = some n) (hR : rm.frames + 1 ≤ R.frames ∧ 8 + (maxL + 11) + rm.locals ≤ R.locals) (hz : rm.cells = 0 ∧ rm.slots = 0) (hn : As.length = n) (hst : (As.reverse ++ .ref (a b) :: rest) = st) (hrm : (rest.map fun v => v.category).sum ≤ 8) (hp : pc + 3 = pc') (kk : X Y s m D cl N a nL E' pc' L rest) : X Y s m D cl N a nL E pc L st := by
  subst hst
  obtain ⟨⟨p, e, below, meth, c, rfl, ⟨hx, hb, hml, hown, hts⟩, hr, hlk⟩, hcn, hsn, hK, hJ, hNs⟩ := Γ
  subst hp
  intro H locs ls h1 h2 h3
  refine va_callv (va_runV (As := As) (rest := rest) ⟨hx, hb, hml, hown, hts⟩ hM ⟨callB_of n hts (bigIn hco) rfl hz.1 hz.2 (hts _ hini) (hts _ hl) hde hR, hts _ hi, hts _ hs⟩ ⟨fun a9 U g9 mk q9 => ⟨q9.1, q9.2.1, va_K.moved (u := U) (U := U.calling g9 mk a9) (Vm.Alike.refl U.vm) q9.2.2.1, xN.same (u := U) (U := U.calling g9 mk a9) rfl q9.2.2.2⟩, by rw [← hCb]; exact va_recv hK h1 hcb ((xw_at hb0).trans (congrArg (fun e9 => some (a b, e9)) hkb)), fun U hU hW => ⟨rfl, by rw [hU]; exact h1, va_K.moved hW.alike hK, xN.warm hW hNs⟩⟩ rfl hn h3.1 rfl (lv_room hrm) hd ⟨hcn, hsn⟩) h2 (fun q9 _ h9 => h9) (fun q9 h9 => h9) (fun u t H1 locs1 ht hvm hpo hB hz9 hk hS => ?_)
  replace hB : va_P D cl (xw N a E') t.heap := hB
  rw [ht] at hB
  exact kk H1 locs1 ls hB hS h3
theorem X_callVq (Γ : XC Y l R s m args cc nL own ret cn sn QQ D cl tys N a) {y : MethodName} {bytes : ByteArray} {maxL n index : Nat} {rt : Option FieldType} {rm : Room} {As rest : List Value} {b ci : Nat} {q : vw_C} {fs : List Value} {C : String} {r : Option Nat} (hd : decode cc pc = .ok (.invokevirtual index, 3)) (hM : Met l y (Cond.code y bytes maxL rt :: wsBig) rm (xP D cl tys N a E (.ref (a b) :: As)) (xQq D cl N a r E') 0 0 (xA N a)) (hb0 : b < N) (hkb : E b = .inr (ci, fs)) (hcb : cl[ci]? = some q) (hCb : q.1 = C) (hl : Cond.methodLink own index y ∈ wsBig) (hi : Cond.instanceMethod y ∈ wsBig) (hs : Cond.selects C y y ∈ wsBig) (hini : Cond.initialized y.cls ∈ wsBig) (hco : Cond.code y bytes maxL rt ∈ wsBig) (hde : y.cls ≠ "java/lang/invoke/MethodHandle" ∧ y.cls ≠ "java/lang/invoke/VarHandle" ∧ (parseMethodDescriptor y.desc).map (fun d => d.parameters.length) = some n) (hR : rm.frames + 1 ≤ R.frames ∧ 8 + (maxL + 11) + rm.locals ≤ R.locals) (hz : rm.cells = 0 ∧ rm.slots = 0) (hn : As.length = n) (hst : (As.reverse ++ .ref (a b) :: rest) = st) (hrm : (rest.map fun v => v.category).sum ≤ 8) (hp : pc + 3 = pc') (kk : X Y s m D cl N a nL E' pc' L (va_rf r :: rest)) : X Y s m D cl N a nL E pc L st := by
  subst hst
  obtain ⟨⟨p, e, below, meth, c, rfl, ⟨hx, hb, hml, hown, hts⟩, hr, hlk⟩, hcn, hsn, hK, hJ, hNs⟩ := Γ
  subst hp
  intro H locs ls h1 h2 h3
  refine va_callq (va_runV (As := As) (rest := rest) ⟨hx, hb, hml, hown, hts⟩ hM ⟨callB_of n hts (bigIn hco) rfl hz.1 hz.2 (hts _ hini) (hts _ hl) hde hR, hts _ hi, hts _ hs⟩ ⟨fun a9 U g9 mk q9 => ⟨q9.1, q9.2.1, va_K.moved (u := U) (U := U.calling g9 mk a9) (Vm.Alike.refl U.vm) q9.2.2.1, xN.same (u := U) (U := U.calling g9 mk a9) rfl q9.2.2.2⟩, by rw [← hCb]; exact va_recv hK h1 hcb ((xw_at hb0).trans (congrArg (fun e9 => some (a b, e9)) hkb)), fun U hU hW => ⟨rfl, by rw [hU]; exact h1, va_K.moved hW.alike hK, xN.warm hW hNs⟩⟩ rfl hn h3.1 rfl (lv_room hrm) hd ⟨hcn, hsn⟩) h2 (fun q9 _ h9 => h9) (fun q9 h9 => h9) (fun r9 u t H1 locs1 ht hvm hpo hB hz9 hk hS => ?_)
  cases hpo
  replace hB : va_P D cl (xw N a E') t.heap := hB
  rw [ht] at hB
  exact kk H1 locs1 ls hB hS h3
theorem X_callVNi (Γ : XC Y l R s m args cc nL own ret cn sn QQ D cl tys N a) {y : MethodName} {bytes : ByteArray} {maxL n index : Nat} {rt : Option FieldType} {rm : Room} {As rest : List Value} {b ci : Nat} {q : vw_C} {fs : List Value} {C host : String} {r : Int32} (hd : decode cc pc = .ok (.invokevirtual index, 3)) (hM : Met l y (Cond.code y bytes maxL rt :: wsBig) rm (xP D cl tys N a E (.ref (a b) :: As)) (xQi D cl N a r E') 0 0 (xA N a)) (hb0 : b < N) (hkb : E b = .inr (ci, fs)) (hcb : cl[ci]? = some q) (hCb : q.1 = C) (hl : Cond.methodLinkNest own index y host ∈ xnl) (hi : Cond.instanceMethod y ∈ wsBig) (hs : Cond.selects C y y ∈ wsBig) (hini : Cond.initialized y.cls ∈ wsBig) (hco : Cond.code y bytes maxL rt ∈ wsBig) (hde : y.cls ≠ "java/lang/invoke/MethodHandle" ∧ y.cls ≠ "java/lang/invoke/VarHandle" ∧ (parseMethodDescriptor y.desc).map (fun d => d.parameters.length) = some n) (hR : rm.frames + 1 ≤ R.frames ∧ 8 + (maxL + 11) + rm.locals ≤ R.locals) (hz : rm.cells = 0 ∧ rm.slots = 0) (hn : As.length = n) (hst : (As.reverse ++ .ref (a b) :: rest) = st) (hrm : (rest.map fun v => v.category).sum ≤ 8) (hp : pc + 3 = pc') (kk : X Y s m D cl N a nL E' pc' L (.int r :: rest)) : X Y s m D cl N a nL E pc L st := by
  subst hst
  obtain ⟨⟨p, e, below, meth, c, rfl, ⟨hx, hb, hml, hown, hts⟩, hr, hlk⟩, hcn, hsn, hK, hJ, hNs⟩ := Γ
  subst hp
  intro H locs ls h1 h2 h3
  refine va_calli (va_runVN (As := As) (rest := rest) ⟨hx, hb, hml, hown, hts⟩ hM ⟨va_cnB n hts (bigIn hco) rfl hz.1 hz.2 (hNs _ hl) (hts _ hini) hde hR, hts _ hi, hts _ hs⟩ ⟨fun a9 U g9 mk q9 => ⟨q9.1, q9.2.1, va_K.moved (u := U) (U := U.calling g9 mk a9) (Vm.Alike.refl U.vm) q9.2.2.1, xN.same (u := U) (U := U.calling g9 mk a9) rfl q9.2.2.2⟩, by rw [← hCb]; exact va_recv hK h1 hcb ((xw_at hb0).trans (congrArg (fun e9 => some (a b, e9)) hkb)), fun U hU hW => ⟨rfl, by rw [hU]; exact h1, va_K.moved hW.alike hK, xN.warm hW hNs⟩⟩ rfl hn h3.1 rfl (lv_room hrm) hd ⟨hcn, hsn⟩) h2 (fun q9 _ h9 => h9) (fun q9 h9 => h9) (fun r9 u t H1 locs1 ht hvm hpo hB hz9 hk hS => ?_)
  cases hpo
  replace hB : va_P D cl (xw N a E') t.heap := hB
  rw [ht] at hB
  exact kk H1 locs1 ls hB hS h3
theorem X_callVNv (Γ : XC Y l R s m args cc nL own ret cn sn QQ D cl tys N a) {y : MethodName} {bytes : ByteArray} {maxL n index : Nat} {rt : Option FieldType} {rm : Room} {As rest : List Value} {b ci : Nat} {q : vw_C} {fs : List Value} {C host : String}  (hd : decode cc pc = .ok (.invokevirtual index, 3)) (hM : Met l y (Cond.code y bytes maxL rt :: wsBig) rm (xP D cl tys N a E (.ref (a b) :: As)) (xQv D cl N a E') 0 0 (xA N a)) (hb0 : b < N) (hkb : E b = .inr (ci, fs)) (hcb : cl[ci]? = some q) (hCb : q.1 = C) (hl : Cond.methodLinkNest own index y host ∈ xnl) (hi : Cond.instanceMethod y ∈ wsBig) (hs : Cond.selects C y y ∈ wsBig) (hini : Cond.initialized y.cls ∈ wsBig) (hco : Cond.code y bytes maxL rt ∈ wsBig) (hde : y.cls ≠ "java/lang/invoke/MethodHandle" ∧ y.cls ≠ "java/lang/invoke/VarHandle" ∧ (parseMethodDescriptor y.desc).map (fun d => d.parameters.length) = some n) (hR : rm.frames + 1 ≤ R.frames ∧ 8 + (maxL + 11) + rm.locals ≤ R.locals) (hz : rm.cells = 0 ∧ rm.slots = 0) (hn : As.length = n) (hst : (As.reverse ++ .ref (a b) :: rest) = st) (hrm : (rest.map fun v => v.category).sum ≤ 8) (hp : pc + 3 = pc') (kk : X Y s m D cl N a nL E' pc' L rest) : X Y s m D cl N a nL E pc L st := by
  subst hst
  obtain ⟨⟨p, e, below, meth, c, rfl, ⟨hx, hb, hml, hown, hts⟩, hr, hlk⟩, hcn, hsn, hK, hJ, hNs⟩ := Γ
  subst hp
  intro H locs ls h1 h2 h3
  refine va_callv (va_runVN (As := As) (rest := rest) ⟨hx, hb, hml, hown, hts⟩ hM ⟨va_cnB n hts (bigIn hco) rfl hz.1 hz.2 (hNs _ hl) (hts _ hini) hde hR, hts _ hi, hts _ hs⟩ ⟨fun a9 U g9 mk q9 => ⟨q9.1, q9.2.1, va_K.moved (u := U) (U := U.calling g9 mk a9) (Vm.Alike.refl U.vm) q9.2.2.1, xN.same (u := U) (U := U.calling g9 mk a9) rfl q9.2.2.2⟩, by rw [← hCb]; exact va_recv hK h1 hcb ((xw_at hb0).trans (congrArg (fun e9 => some (a b, e9)) hkb)), fun U hU hW => ⟨rfl, by rw [hU]; exact h1, va_K.moved hW.alike hK, xN.warm hW hNs⟩⟩ rfl hn h3.1 rfl (lv_room hrm) hd ⟨hcn, hsn⟩) h2 (fun q9 _ h9 => h9) (fun q9 h9 => h9) (fun u t H1 locs1 ht hvm hpo hB hz9 hk hS => ?_)
  replace hB : va_P D cl (xw N a E') t.heap := hB
  rw [ht] at hB
  exact kk H1 locs1 ls hB hS h3
theorem X_callVNq (Γ : XC Y l R s m args cc nL own ret cn sn QQ D cl tys N a) {y : MethodName} {bytes : ByteArray} {maxL n index : Nat} {rt : Option FieldType} {rm : Room} {As rest : List Value} {b ci : Nat} {q : vw_C} {fs : List Value} {C host : String} {r : Option Nat} (hd : decode cc pc = .ok (.invokevirtual index, 3)) (hM : Met l y (Cond.code y bytes maxL rt :: wsBig) rm (xP D cl tys N a E (.ref (a b) :: As)) (xQq D cl N a r E') 0 0 (xA N a)) (hb0 : b < N) (hkb : E b = .inr (ci, fs)) (hcb : cl[ci]? = some q) (hCb : q.1 = C) (hl : Cond.methodLinkNest own index y host ∈ xnl) (hi : Cond.instanceMethod y ∈ wsBig) (hs : Cond.selects C y y ∈ wsBig) (hini : Cond.initialized y.cls ∈ wsBig) (hco : Cond.code y bytes maxL rt ∈ wsBig) (hde : y.cls ≠ "java/lang/invoke/MethodHandle" ∧ y.cls ≠ "java/lang/invoke/VarHandle" ∧ (parseMethodDescriptor y.desc).map (fun d => d.parameters.length) = some n) (hR : rm.frames + 1 ≤ R.frames ∧ 8 + (maxL + 11) + rm.locals ≤ R.locals) (hz : rm.cells = 0 ∧ rm.slots = 0) (hn : As.length = n) (hst : (As.reverse ++ .ref (a b) :: rest) = st) (hrm : (rest.map fun v => v.category).sum ≤ 8) (hp : pc + 3 = pc') (kk : X Y s m D cl N a nL E' pc' L (va_rf r :: rest)) : X Y s m D cl N a nL E pc L st := by
  subst hst
  obtain ⟨⟨p, e, below, meth, c, rfl, ⟨hx, hb, hml, hown, hts⟩, hr, hlk⟩, hcn, hsn, hK, hJ, hNs⟩ := Γ
  subst hp
  intro H locs ls h1 h2 h3
  refine va_callq (va_runVN (As := As) (rest := rest) ⟨hx, hb, hml, hown, hts⟩ hM ⟨va_cnB n hts (bigIn hco) rfl hz.1 hz.2 (hNs _ hl) (hts _ hini) hde hR, hts _ hi, hts _ hs⟩ ⟨fun a9 U g9 mk q9 => ⟨q9.1, q9.2.1, va_K.moved (u := U) (U := U.calling g9 mk a9) (Vm.Alike.refl U.vm) q9.2.2.1, xN.same (u := U) (U := U.calling g9 mk a9) rfl q9.2.2.2⟩, by rw [← hCb]; exact va_recv hK h1 hcb ((xw_at hb0).trans (congrArg (fun e9 => some (a b, e9)) hkb)), fun U hU hW => ⟨rfl, by rw [hU]; exact h1, va_K.moved hW.alike hK, xN.warm hW hNs⟩⟩ rfl hn h3.1 rfl (lv_room hrm) hd ⟨hcn, hsn⟩) h2 (fun q9 _ h9 => h9) (fun q9 h9 => h9) (fun r9 u t H1 locs1 ht hvm hpo hB hz9 hk hS => ?_)
  cases hpo
  replace hB : va_P D cl (xw N a E') t.heap := hB
  rw [ht] at hB
  exact kk H1 locs1 ls hB hS h3
theorem X_callSi (Γ : XC Y l R s m args cc nL own ret cn sn QQ D cl tys N a) {y : MethodName} {bytes : ByteArray} {maxL n index : Nat} {rt : Option FieldType} {rm : Room} {As rest : List Value}  {r : Int32} (hd : decode cc pc = .ok (.invokestatic index, 3)) (hM : Met l y (Cond.code y bytes maxL rt :: wsBig) rm (xP D cl tys N a E As) (xQi D cl N a r E') 0 0 (xA N a))  (hl : Cond.methodLink own index y ∈ wsBig) (hs : Cond.static y ∈ wsBig) (hini : Cond.initialized y.cls ∈ wsBig) (hco : Cond.code y bytes maxL rt ∈ wsBig) (hde : y.cls ≠ "java/lang/invoke/MethodHandle" ∧ y.cls ≠ "java/lang/invoke/VarHandle" ∧ (parseMethodDescriptor y.desc).map (fun d => d.parameters.length) = some n) (hR : rm.frames + 1 ≤ R.frames ∧ 8 + (maxL + 11) + rm.locals ≤ R.locals) (hz : rm.cells = 0 ∧ rm.slots = 0) (hn : As.length = n) (hst : (As.reverse ++ rest) = st) (hrm : (rest.map fun v => v.category).sum ≤ 8) (hp : pc + 3 = pc') (kk : X Y s m D cl N a nL E' pc' L (.int r :: rest)) : X Y s m D cl N a nL E pc L st := by
  subst hst
  obtain ⟨⟨p, e, below, meth, c, rfl, ⟨hx, hb, hml, hown, hts⟩, hr, hlk⟩, hcn, hsn, hK, hJ, hNs⟩ := Γ
  subst hp
  intro H locs ls h1 h2 h3
  refine va_calli (va_runS (As := As) (rest := rest) ⟨hx, hb, hml, hown, hts⟩ hM ⟨callB_of n hts (bigIn hco) rfl hz.1 hz.2 (hts _ hini) (hts _ hl) hde hR, hts _ hs⟩ ⟨fun a9 U g9 mk q9 => ⟨q9.1, q9.2.1, va_K.moved (u := U) (U := U.calling g9 mk a9) (Vm.Alike.refl U.vm) q9.2.2.1, xN.same (u := U) (U := U.calling g9 mk a9) rfl q9.2.2.2⟩, fun U hU hW => ⟨rfl, by rw [hU]; exact h1, va_K.moved hW.alike hK, xN.warm hW hNs⟩⟩ rfl hn h3.1 rfl (lv_room hrm) hd ⟨hcn, hsn⟩) h2 (fun q9 _ h9 => h9) (fun q9 h9 => h9) (fun r9 u t H1 locs1 ht hvm hpo hB hz9 hk hS => ?_)
  cases hpo
  replace hB : va_P D cl (xw N a E') t.heap := hB
  rw [ht] at hB
  exact kk H1 locs1 ls hB hS h3
theorem X_callSv (Γ : XC Y l R s m args cc nL own ret cn sn QQ D cl tys N a) {y : MethodName} {bytes : ByteArray} {maxL n index : Nat} {rt : Option FieldType} {rm : Room} {As rest : List Value}   (hd : decode cc pc = .ok (.invokestatic index, 3)) (hM : Met l y (Cond.code y bytes maxL rt :: wsBig) rm (xP D cl tys N a E As) (xQv D cl N a E') 0 0 (xA N a))  (hl : Cond.methodLink own index y ∈ wsBig) (hs : Cond.static y ∈ wsBig) (hini : Cond.initialized y.cls ∈ wsBig) (hco : Cond.code y bytes maxL rt ∈ wsBig) (hde : y.cls ≠ "java/lang/invoke/MethodHandle" ∧ y.cls ≠ "java/lang/invoke/VarHandle" ∧ (parseMethodDescriptor y.desc).map (fun d => d.parameters.length) = some n) (hR : rm.frames + 1 ≤ R.frames ∧ 8 + (maxL + 11) + rm.locals ≤ R.locals) (hz : rm.cells = 0 ∧ rm.slots = 0) (hn : As.length = n) (hst : (As.reverse ++ rest) = st) (hrm : (rest.map fun v => v.category).sum ≤ 8) (hp : pc + 3 = pc') (kk : X Y s m D cl N a nL E' pc' L rest) : X Y s m D cl N a nL E pc L st := by
  subst hst
  obtain ⟨⟨p, e, below, meth, c, rfl, ⟨hx, hb, hml, hown, hts⟩, hr, hlk⟩, hcn, hsn, hK, hJ, hNs⟩ := Γ
  subst hp
  intro H locs ls h1 h2 h3
  refine va_callv (va_runS (As := As) (rest := rest) ⟨hx, hb, hml, hown, hts⟩ hM ⟨callB_of n hts (bigIn hco) rfl hz.1 hz.2 (hts _ hini) (hts _ hl) hde hR, hts _ hs⟩ ⟨fun a9 U g9 mk q9 => ⟨q9.1, q9.2.1, va_K.moved (u := U) (U := U.calling g9 mk a9) (Vm.Alike.refl U.vm) q9.2.2.1, xN.same (u := U) (U := U.calling g9 mk a9) rfl q9.2.2.2⟩, fun U hU hW => ⟨rfl, by rw [hU]; exact h1, va_K.moved hW.alike hK, xN.warm hW hNs⟩⟩ rfl hn h3.1 rfl (lv_room hrm) hd ⟨hcn, hsn⟩) h2 (fun q9 _ h9 => h9) (fun q9 h9 => h9) (fun u t H1 locs1 ht hvm hpo hB hz9 hk hS => ?_)
  replace hB : va_P D cl (xw N a E') t.heap := hB
  rw [ht] at hB
  exact kk H1 locs1 ls hB hS h3
theorem X_callSq (Γ : XC Y l R s m args cc nL own ret cn sn QQ D cl tys N a) {y : MethodName} {bytes : ByteArray} {maxL n index : Nat} {rt : Option FieldType} {rm : Room} {As rest : List Value}  {r : Option Nat} (hd : decode cc pc = .ok (.invokestatic index, 3)) (hM : Met l y (Cond.code y bytes maxL rt :: wsBig) rm (xP D cl tys N a E As) (xQq D cl N a r E') 0 0 (xA N a))  (hl : Cond.methodLink own index y ∈ wsBig) (hs : Cond.static y ∈ wsBig) (hini : Cond.initialized y.cls ∈ wsBig) (hco : Cond.code y bytes maxL rt ∈ wsBig) (hde : y.cls ≠ "java/lang/invoke/MethodHandle" ∧ y.cls ≠ "java/lang/invoke/VarHandle" ∧ (parseMethodDescriptor y.desc).map (fun d => d.parameters.length) = some n) (hR : rm.frames + 1 ≤ R.frames ∧ 8 + (maxL + 11) + rm.locals ≤ R.locals) (hz : rm.cells = 0 ∧ rm.slots = 0) (hn : As.length = n) (hst : (As.reverse ++ rest) = st) (hrm : (rest.map fun v => v.category).sum ≤ 8) (hp : pc + 3 = pc') (kk : X Y s m D cl N a nL E' pc' L (va_rf r :: rest)) : X Y s m D cl N a nL E pc L st := by
  subst hst
  obtain ⟨⟨p, e, below, meth, c, rfl, ⟨hx, hb, hml, hown, hts⟩, hr, hlk⟩, hcn, hsn, hK, hJ, hNs⟩ := Γ
  subst hp
  intro H locs ls h1 h2 h3
  refine va_callq (va_runS (As := As) (rest := rest) ⟨hx, hb, hml, hown, hts⟩ hM ⟨callB_of n hts (bigIn hco) rfl hz.1 hz.2 (hts _ hini) (hts _ hl) hde hR, hts _ hs⟩ ⟨fun a9 U g9 mk q9 => ⟨q9.1, q9.2.1, va_K.moved (u := U) (U := U.calling g9 mk a9) (Vm.Alike.refl U.vm) q9.2.2.1, xN.same (u := U) (U := U.calling g9 mk a9) rfl q9.2.2.2⟩, fun U hU hW => ⟨rfl, by rw [hU]; exact h1, va_K.moved hW.alike hK, xN.warm hW hNs⟩⟩ rfl hn h3.1 rfl (lv_room hrm) hd ⟨hcn, hsn⟩) h2 (fun q9 _ h9 => h9) (fun q9 h9 => h9) (fun r9 u t H1 locs1 ht hvm hpo hB hz9 hk hS => ?_)
  cases hpo
  replace hB : va_P D cl (xw N a E') t.heap := hB
  rw [ht] at hB
  exact kk H1 locs1 ls hB hS h3
theorem X_callSNi (Γ : XC Y l R s m args cc nL own ret cn sn QQ D cl tys N a) {y : MethodName} {bytes : ByteArray} {maxL n index : Nat} {rt : Option FieldType} {rm : Room} {As rest : List Value} {host : String} {r : Int32} (hd : decode cc pc = .ok (.invokestatic index, 3)) (hM : Met l y (Cond.code y bytes maxL rt :: wsBig) rm (xP D cl tys N a E As) (xQi D cl N a r E') 0 0 (xA N a))  (hl : Cond.methodLinkNest own index y host ∈ xnl) (hs : Cond.static y ∈ wsBig) (hini : Cond.initialized y.cls ∈ wsBig) (hco : Cond.code y bytes maxL rt ∈ wsBig) (hde : y.cls ≠ "java/lang/invoke/MethodHandle" ∧ y.cls ≠ "java/lang/invoke/VarHandle" ∧ (parseMethodDescriptor y.desc).map (fun d => d.parameters.length) = some n) (hR : rm.frames + 1 ≤ R.frames ∧ 8 + (maxL + 11) + rm.locals ≤ R.locals) (hz : rm.cells = 0 ∧ rm.slots = 0) (hn : As.length = n) (hst : (As.reverse ++ rest) = st) (hrm : (rest.map fun v => v.category).sum ≤ 8) (hp : pc + 3 = pc') (kk : X Y s m D cl N a nL E' pc' L (.int r :: rest)) : X Y s m D cl N a nL E pc L st := by
  subst hst
  obtain ⟨⟨p, e, below, meth, c, rfl, ⟨hx, hb, hml, hown, hts⟩, hr, hlk⟩, hcn, hsn, hK, hJ, hNs⟩ := Γ
  subst hp
  intro H locs ls h1 h2 h3
  refine va_calli (va_runSN (As := As) (rest := rest) ⟨hx, hb, hml, hown, hts⟩ hM ⟨va_cnB n hts (bigIn hco) rfl hz.1 hz.2 (hNs _ hl) (hts _ hini) hde hR, hts _ hs, trivial⟩ ⟨fun a9 U g9 mk q9 => ⟨q9.1, q9.2.1, va_K.moved (u := U) (U := U.calling g9 mk a9) (Vm.Alike.refl U.vm) q9.2.2.1, xN.same (u := U) (U := U.calling g9 mk a9) rfl q9.2.2.2⟩, fun U hU hW => ⟨rfl, by rw [hU]; exact h1, va_K.moved hW.alike hK, xN.warm hW hNs⟩⟩ rfl hn h3.1 rfl (lv_room hrm) hd ⟨hcn, hsn⟩) h2 (fun q9 _ h9 => h9) (fun q9 h9 => h9) (fun r9 u t H1 locs1 ht hvm hpo hB hz9 hk hS => ?_)
  cases hpo
  replace hB : va_P D cl (xw N a E') t.heap := hB
  rw [ht] at hB
  exact kk H1 locs1 ls hB hS h3
theorem X_callSNv (Γ : XC Y l R s m args cc nL own ret cn sn QQ D cl tys N a) {y : MethodName} {bytes : ByteArray} {maxL n index : Nat} {rt : Option FieldType} {rm : Room} {As rest : List Value} {host : String}  (hd : decode cc pc = .ok (.invokestatic index, 3)) (hM : Met l y (Cond.code y bytes maxL rt :: wsBig) rm (xP D cl tys N a E As) (xQv D cl N a E') 0 0 (xA N a))  (hl : Cond.methodLinkNest own index y host ∈ xnl) (hs : Cond.static y ∈ wsBig) (hini : Cond.initialized y.cls ∈ wsBig) (hco : Cond.code y bytes maxL rt ∈ wsBig) (hde : y.cls ≠ "java/lang/invoke/MethodHandle" ∧ y.cls ≠ "java/lang/invoke/VarHandle" ∧ (parseMethodDescriptor y.desc).map (fun d => d.parameters.length) = some n) (hR : rm.frames + 1 ≤ R.frames ∧ 8 + (maxL + 11) + rm.locals ≤ R.locals) (hz : rm.cells = 0 ∧ rm.slots = 0) (hn : As.length = n) (hst : (As.reverse ++ rest) = st) (hrm : (rest.map fun v => v.category).sum ≤ 8) (hp : pc + 3 = pc') (kk : X Y s m D cl N a nL E' pc' L rest) : X Y s m D cl N a nL E pc L st := by
  subst hst
  obtain ⟨⟨p, e, below, meth, c, rfl, ⟨hx, hb, hml, hown, hts⟩, hr, hlk⟩, hcn, hsn, hK, hJ, hNs⟩ := Γ
  subst hp
  intro H locs ls h1 h2 h3
  refine va_callv (va_runSN (As := As) (rest := rest) ⟨hx, hb, hml, hown, hts⟩ hM ⟨va_cnB n hts (bigIn hco) rfl hz.1 hz.2 (hNs _ hl) (hts _ hini) hde hR, hts _ hs, trivial⟩ ⟨fun a9 U g9 mk q9 => ⟨q9.1, q9.2.1, va_K.moved (u := U) (U := U.calling g9 mk a9) (Vm.Alike.refl U.vm) q9.2.2.1, xN.same (u := U) (U := U.calling g9 mk a9) rfl q9.2.2.2⟩, fun U hU hW => ⟨rfl, by rw [hU]; exact h1, va_K.moved hW.alike hK, xN.warm hW hNs⟩⟩ rfl hn h3.1 rfl (lv_room hrm) hd ⟨hcn, hsn⟩) h2 (fun q9 _ h9 => h9) (fun q9 h9 => h9) (fun u t H1 locs1 ht hvm hpo hB hz9 hk hS => ?_)
  replace hB : va_P D cl (xw N a E') t.heap := hB
  rw [ht] at hB
  exact kk H1 locs1 ls hB hS h3
theorem X_callSNq (Γ : XC Y l R s m args cc nL own ret cn sn QQ D cl tys N a) {y : MethodName} {bytes : ByteArray} {maxL n index : Nat} {rt : Option FieldType} {rm : Room} {As rest : List Value} {host : String} {r : Option Nat} (hd : decode cc pc = .ok (.invokestatic index, 3)) (hM : Met l y (Cond.code y bytes maxL rt :: wsBig) rm (xP D cl tys N a E As) (xQq D cl N a r E') 0 0 (xA N a))  (hl : Cond.methodLinkNest own index y host ∈ xnl) (hs : Cond.static y ∈ wsBig) (hini : Cond.initialized y.cls ∈ wsBig) (hco : Cond.code y bytes maxL rt ∈ wsBig) (hde : y.cls ≠ "java/lang/invoke/MethodHandle" ∧ y.cls ≠ "java/lang/invoke/VarHandle" ∧ (parseMethodDescriptor y.desc).map (fun d => d.parameters.length) = some n) (hR : rm.frames + 1 ≤ R.frames ∧ 8 + (maxL + 11) + rm.locals ≤ R.locals) (hz : rm.cells = 0 ∧ rm.slots = 0) (hn : As.length = n) (hst : (As.reverse ++ rest) = st) (hrm : (rest.map fun v => v.category).sum ≤ 8) (hp : pc + 3 = pc') (kk : X Y s m D cl N a nL E' pc' L (va_rf r :: rest)) : X Y s m D cl N a nL E pc L st := by
  subst hst
  obtain ⟨⟨p, e, below, meth, c, rfl, ⟨hx, hb, hml, hown, hts⟩, hr, hlk⟩, hcn, hsn, hK, hJ, hNs⟩ := Γ
  subst hp
  intro H locs ls h1 h2 h3
  refine va_callq (va_runSN (As := As) (rest := rest) ⟨hx, hb, hml, hown, hts⟩ hM ⟨va_cnB n hts (bigIn hco) rfl hz.1 hz.2 (hNs _ hl) (hts _ hini) hde hR, hts _ hs, trivial⟩ ⟨fun a9 U g9 mk q9 => ⟨q9.1, q9.2.1, va_K.moved (u := U) (U := U.calling g9 mk a9) (Vm.Alike.refl U.vm) q9.2.2.1, xN.same (u := U) (U := U.calling g9 mk a9) rfl q9.2.2.2⟩, fun U hU hW => ⟨rfl, by rw [hU]; exact h1, va_K.moved hW.alike hK, xN.warm hW hNs⟩⟩ rfl hn h3.1 rfl (lv_room hrm) hd ⟨hcn, hsn⟩) h2 (fun q9 _ h9 => h9) (fun q9 h9 => h9) (fun r9 u t H1 locs1 ht hvm hpo hB hz9 hk hS => ?_)
  cases hpo
  replace hB : va_P D cl (xw N a E') t.heap := hB
  rw [ht] at hB
  exact kk H1 locs1 ls hB hS h3
theorem X_mmax (Γ : XC Y l R s m args cc nL own ret cn sn QQ D cl tys N a) {x y : Int32} {index : Nat} (hd : decode cc pc = .ok (.invokestatic index, 3)) (hlink : (Cond.methodLink own index Lib.Math.max.name) ∈ wsBig) (hstat : (Cond.static Lib.Math.max.name) ∈ wsBig) (hini : (Cond.initialized "java/lang/Math") ∈ wsBig) (hcode : (Cond.code Lib.Math.max.name Lib.Math.max.code 2 (some .int)) ∈ wsBig) (hfr : 1 ≤ R.frames) (hlo : (st.map fun v => v.category).sum + 13 ≤ R.locals) (hp : pc + 3 = pc') (kk : X Y s m D cl N a nL E pc' L (.int (if x < y then y else x) :: st)) : X Y s m D cl N a nL E pc L (.int y :: .int x :: st) := by
  obtain ⟨⟨p, e, below, meth, c, rfl, ⟨hx, hb, hml, hown, hts⟩, hr, hlk⟩, hcn, hsn, hK, hJ, hNs⟩ := Γ
  subst hp
  intro H locs ls h1 h2 h3
  exact va_mmax hx hb (hml.trans h3.1.symm) hown (hts _ hlink) (hts _ hstat) (hts _ hini) (hts _ hcode) hfr hlo hcn hsn hd (kk H locs ls h1 h2 h3)
theorem X_mmin (Γ : XC Y l R s m args cc nL own ret cn sn QQ D cl tys N a) {x y : Int32} {index : Nat} (hd : decode cc pc = .ok (.invokestatic index, 3)) (hlink : (Cond.methodLink own index Lib.Math.min.name) ∈ wsBig) (hstat : (Cond.static Lib.Math.min.name) ∈ wsBig) (hini : (Cond.initialized "java/lang/Math") ∈ wsBig) (hcode : (Cond.code Lib.Math.min.name Lib.Math.min.code 2 (some .int)) ∈ wsBig) (hfr : 1 ≤ R.frames) (hlo : (st.map fun v => v.category).sum + 13 ≤ R.locals) (hp : pc + 3 = pc') (kk : X Y s m D cl N a nL E pc' L (.int (if y < x then y else x) :: st)) : X Y s m D cl N a nL E pc L (.int y :: .int x :: st) := by
  obtain ⟨⟨p, e, below, meth, c, rfl, ⟨hx, hb, hml, hown, hts⟩, hr, hlk⟩, hcn, hsn, hK, hJ, hNs⟩ := Γ
  subst hp
  intro H locs ls h1 h2 h3
  exact va_mmin hx hb (hml.trans h3.1.symm) hown (hts _ hlink) (hts _ hstat) (hts _ hini) (hts _ hcode) hfr hlo hcn hsn hd (kk H locs ls h1 h2 h3)
theorem X_mabs (Γ : XC Y l R s m args cc nL own ret cn sn QQ D cl tys N a) {x : Int32} {index : Nat} (hd : decode cc pc = .ok (.invokestatic index, 3)) (hlink : (Cond.methodLink own index Lib.Math.abs.name) ∈ wsBig) (hstat : (Cond.static Lib.Math.abs.name) ∈ wsBig) (hini : (Cond.initialized "java/lang/Math") ∈ wsBig) (hcode : (Cond.code Lib.Math.abs.name Lib.Math.abs.code 1 (some .int)) ∈ wsBig) (hfr : 1 ≤ R.frames) (hlo : (st.map fun v => v.category).sum + 13 ≤ R.locals) (hp : pc + 3 = pc') (kk : X Y s m D cl N a nL E pc' L (.int (if 0 ≤ x then x else 0 - x) :: st)) : X Y s m D cl N a nL E pc L (.int x :: st) := by
  obtain ⟨⟨p, e, below, meth, c, rfl, ⟨hx, hb, hml, hown, hts⟩, hr, hlk⟩, hcn, hsn, hK, hJ, hNs⟩ := Γ
  subst hp
  intro H locs ls h1 h2 h3
  exact va_mabs hx hb (hml.trans h3.1.symm) hown (hts _ hlink) (hts _ hstat) (hts _ hini) (hts _ hcode) hfr hlo hcn hsn hd (kk H locs ls h1 h2 h3)
theorem X_name {α : Type} {x : α} {F : α → Prop} (kk : ∀ y, y = x → F y) : F x := kk x rfl
def jn {α β : Type} (t : α) (b : α → β) : β := b t
theorem jn_open {α β : Type} {r : β} {t : α} {b : α → β} {C : Prop} (e : r = jn t b) (k : ∀ j : α, j = t → r = b j → C) : C := k t rfl e
theorem va_rf_cat (r : Option Nat) : (va_rf r).category = 1 := by cases r <;> rfl
theorem X_cq {r : Option Nat} (hn : r = none → X Y s m D cl N a nL E pc L (.null :: st)) (hs : ¬ r = none → X Y s m D cl N a nL E pc L (.ref (a (r.getD 0)) :: st)) : X Y s m D cl N a nL E pc L (va_rf (r.map a) :: st) := by
  cases r with
  | none => exact hn rfl
  | some q => exact hs (fun h => by cases h)
end XL
