/-! The Z layer: a world that may grow: constructors, and the law. -/
section ZL
/-- what the tables say of arrays of references -/
def xO (U : State) : Prop := va_AO "InSyncLog$Broker" U ∧ va_AO "InSyncLog$Message" U
theorem xO.moved {u U : State} (hvm : u.vm.Alike U.vm) (h : xO u) : xO U := ⟨va_AO.moved hvm h.1, va_AO.moved hvm h.2⟩
def ZC (Y : Nat → Nat → Heap → List Loc → JFrame → Prop) (l : Launch) (R : Room) (s : State) (m : MethodId) (args : Array Value) (cc : ByteArray) (nL : Nat) (own nm : String) (ret : Option FieldType) (QQ : List Frame → State → Prop) (D : va_G) (cl : List vw_C) (tys : List (ClassId × FieldType)) (A : Nat → Prop) : Prop :=
  (∃ (p : Program) (e : Env) (below : List Frame) (meth : Method) (c : Code), Y = (fun cn sn H locs g => W p l e R s m args below meth c H locs cn sn (QQ below) g) ∧ CallFix p m c cc nL s args wsBig own ∧ meth.sig.returnType = ret ∧ meth.locks = false ∧ meth.name = nm) ∧ va_K D cl tys s ∧ xN s ∧ xO s ∧ ∀ q : Nat, s.heap.size ≤ q → A q
def Z (Y : Nat → Nat → Heap → List Loc → JFrame → Prop) (s : State) (m : MethodId) (D : va_G) (cl : List vw_C) (A : Nat → Prop) (nL : Nat) (w : va_W) (cn sn pc : Nat) (L : List (Nat × Value)) (st : List Value) : Prop :=
  ∀ (H : Heap) (locs : List Loc) (ls : Array Slot), va_P D cl w H → va_D A w → va_S A s.heap H locs → lv_has ls nL L → Y cn sn H locs (F0 m pc ls st)
variable {Y : Nat → Nat → Heap → List Loc → JFrame → Prop} {l : Launch} {R : Room} {s : State} {m : MethodId} {args : Array Value} {cc : ByteArray} {nL : Nat} {own nm : String} {ret : Option FieldType} {QQ : List Frame → State → Prop}
variable {D : va_G} {cl : List vw_C} {tys : List (ClassId × FieldType)} {A : Nat → Prop} {w w' : va_W} {cn sn pc pc' : Nat} {L L' : List (Nat × Value)} {st : List Value}
theorem Z_iconst (Γ : ZC Y l R s m args cc nL own nm ret QQ D cl tys A) {n : Int} {v : Int32} (hd : decode cc pc = .ok (.iconst n, 1)) (hv : Int32.ofInt n = v) (hp : pc + 1 = pc') (kk : Z Y s m D cl A nL w cn sn pc' L (.int v :: st)) : Z Y s m D cl A nL w cn sn pc L st := by
  obtain ⟨⟨p, e, below, meth, c, rfl, ⟨hx, hb, hml, hown, hts⟩, hr, hlk, hnm⟩, hK, hNs, hOs, hA⟩ := Γ
  subst hp
  intro H locs ls h1 hD h2 h3
  exact lv_iconst hx hb hd hv (kk H locs ls h1 hD h2 h3)
theorem Z_bipush (Γ : ZC Y l R s m args cc nL own nm ret QQ D cl tys A) {n : Int} {v : Int32} (hd : decode cc pc = .ok (.bipush n, 2)) (hv : (Int8.ofInt n).toInt32 = v) (hp : pc + 2 = pc') (kk : Z Y s m D cl A nL w cn sn pc' L (.int v :: st)) : Z Y s m D cl A nL w cn sn pc L st := by
  obtain ⟨⟨p, e, below, meth, c, rfl, ⟨hx, hb, hml, hown, hts⟩, hr, hlk, hnm⟩, hK, hNs, hOs, hA⟩ := Γ
  subst hp
  intro H locs ls h1 hD h2 h3
  exact lv_bipush hx hb hd hv (kk H locs ls h1 hD h2 h3)
theorem Z_sipush (Γ : ZC Y l R s m args cc nL own nm ret QQ D cl tys A) {n : Int} {v : Int32} (hd : decode cc pc = .ok (.sipush n, 3)) (hv : (Int16.ofInt n).toInt32 = v) (hp : pc + 3 = pc') (kk : Z Y s m D cl A nL w cn sn pc' L (.int v :: st)) : Z Y s m D cl A nL w cn sn pc L st := by
  obtain ⟨⟨p, e, below, meth, c, rfl, ⟨hx, hb, hml, hown, hts⟩, hr, hlk, hnm⟩, hK, hNs, hOs, hA⟩ := Γ
  subst hp
  intro H locs ls h1 hD h2 h3
  exact lv_sipush hx hb hd hv (kk H locs ls h1 hD h2 h3)
theorem Z_iload_n (Γ : ZC Y l R s m args cc nL own nm ret QQ D cl tys A) {k : Fin 4} {i : Nat} {x : Int32} (hd : decode cc pc = .ok (.iload_n k, 1)) (hi : (k : Nat) = i) (q : Nat) (hl : L[q]? = some (i, .int x)) (hp : pc + 1 = pc') (kk : Z Y s m D cl A nL w cn sn pc' L (.int x :: st)) : Z Y s m D cl A nL w cn sn pc L st := by
  obtain ⟨⟨p, e, below, meth, c, rfl, ⟨hx, hb, hml, hown, hts⟩, hr, hlk, hnm⟩, hK, hNs, hOs, hA⟩ := Γ
  subst hp
  intro H locs ls h1 hD h2 h3
  exact lv_iload_n hx hb hd hi (lv_at h3 q hl) (kk H locs ls h1 hD h2 h3)
theorem Z_iload (Γ : ZC Y l R s m args cc nL own nm ret QQ D cl tys A) {i : Nat} {x : Int32} (hd : decode cc pc = .ok (.iload i, 2)) (q : Nat) (hl : L[q]? = some (i, .int x)) (hp : pc + 2 = pc') (kk : Z Y s m D cl A nL w cn sn pc' L (.int x :: st)) : Z Y s m D cl A nL w cn sn pc L st := by
  obtain ⟨⟨p, e, below, meth, c, rfl, ⟨hx, hb, hml, hown, hts⟩, hr, hlk, hnm⟩, hK, hNs, hOs, hA⟩ := Γ
  subst hp
  intro H locs ls h1 hD h2 h3
  exact lv_iload hx hb hd (lv_at h3 q hl) (kk H locs ls h1 hD h2 h3)
theorem Z_aload_n (Γ : ZC Y l R s m args cc nL own nm ret QQ D cl tys A) {k : Fin 4} {i : Nat} {x : Nat} (hd : decode cc pc = .ok (.aload_n k, 1)) (hi : (k : Nat) = i) (q : Nat) (hl : L[q]? = some (i, .ref x)) (hp : pc + 1 = pc') (kk : Z Y s m D cl A nL w cn sn pc' L (.ref x :: st)) : Z Y s m D cl A nL w cn sn pc L st := by
  obtain ⟨⟨p, e, below, meth, c, rfl, ⟨hx, hb, hml, hown, hts⟩, hr, hlk, hnm⟩, hK, hNs, hOs, hA⟩ := Γ
  subst hp
  intro H locs ls h1 hD h2 h3
  exact lv_aload_n hx hb hd hi (lv_at h3 q hl) (kk H locs ls h1 hD h2 h3)
theorem Z_aload (Γ : ZC Y l R s m args cc nL own nm ret QQ D cl tys A) {i : Nat} {x : Nat} (hd : decode cc pc = .ok (.aload i, 2)) (q : Nat) (hl : L[q]? = some (i, .ref x)) (hp : pc + 2 = pc') (kk : Z Y s m D cl A nL w cn sn pc' L (.ref x :: st)) : Z Y s m D cl A nL w cn sn pc L st := by
  obtain ⟨⟨p, e, below, meth, c, rfl, ⟨hx, hb, hml, hown, hts⟩, hr, hlk, hnm⟩, hK, hNs, hOs, hA⟩ := Γ
  subst hp
  intro H locs ls h1 hD h2 h3
  exact lv_aload hx hb hd (lv_at h3 q hl) (kk H locs ls h1 hD h2 h3)
theorem Z_istore_n (Γ : ZC Y l R s m args cc nL own nm ret QQ D cl tys A) {k : Fin 4} {i : Nat} {x : Int32} (hd : decode cc pc = .ok (.istore_n k, 1)) (hi : (k : Nat) = i) (hn : i < nL) (hl : (i, Value.int x) :: L.filter (fun q => !(q.1 == i) && !(q.1 + 1 == i && q.2.category == 2)) = L') (hp : pc + 1 = pc') (kk : Z Y s m D cl A nL w cn sn pc' L' st) : Z Y s m D cl A nL w cn sn pc L (.int x :: st) := by
  obtain ⟨⟨p, e, below, meth, c, rfl, ⟨hx, hb, hml, hown, hts⟩, hr, hlk, hnm⟩, hK, hNs, hOs, hA⟩ := Γ
  subst hp
  intro H locs ls h1 hD h2 h3
  exact lv_istore_n hx hb hd hi h3 hn hl (fun ls' h' => kk H locs ls' h1 hD h2 h')
theorem Z_istore (Γ : ZC Y l R s m args cc nL own nm ret QQ D cl tys A) {i : Nat} {x : Int32} (hd : decode cc pc = .ok (.istore i, 2)) (hn : i < nL) (hl : (i, Value.int x) :: L.filter (fun q => !(q.1 == i) && !(q.1 + 1 == i && q.2.category == 2)) = L') (hp : pc + 2 = pc') (kk : Z Y s m D cl A nL w cn sn pc' L' st) : Z Y s m D cl A nL w cn sn pc L (.int x :: st) := by
  obtain ⟨⟨p, e, below, meth, c, rfl, ⟨hx, hb, hml, hown, hts⟩, hr, hlk, hnm⟩, hK, hNs, hOs, hA⟩ := Γ
  subst hp
  intro H locs ls h1 hD h2 h3
  exact lv_istore hx hb hd h3 hn hl (fun ls' h' => kk H locs ls' h1 hD h2 h')
theorem Z_astore_n (Γ : ZC Y l R s m args cc nL own nm ret QQ D cl tys A) {k : Fin 4} {i : Nat} {x : Nat} (hd : decode cc pc = .ok (.astore_n k, 1)) (hi : (k : Nat) = i) (hn : i < nL) (hl : (i, Value.ref x) :: L.filter (fun q => !(q.1 == i) && !(q.1 + 1 == i && q.2.category == 2)) = L') (hp : pc + 1 = pc') (kk : Z Y s m D cl A nL w cn sn pc' L' st) : Z Y s m D cl A nL w cn sn pc L (.ref x :: st) := by
  obtain ⟨⟨p, e, below, meth, c, rfl, ⟨hx, hb, hml, hown, hts⟩, hr, hlk, hnm⟩, hK, hNs, hOs, hA⟩ := Γ
  subst hp
  intro H locs ls h1 hD h2 h3
  exact lv_astore_n hx hb hd hi h3 hn hl (fun ls' h' => kk H locs ls' h1 hD h2 h')
theorem Z_astore (Γ : ZC Y l R s m args cc nL own nm ret QQ D cl tys A) {i : Nat} {x : Nat} (hd : decode cc pc = .ok (.astore i, 2)) (hn : i < nL) (hl : (i, Value.ref x) :: L.filter (fun q => !(q.1 == i) && !(q.1 + 1 == i && q.2.category == 2)) = L') (hp : pc + 2 = pc') (kk : Z Y s m D cl A nL w cn sn pc' L' st) : Z Y s m D cl A nL w cn sn pc L (.ref x :: st) := by
  obtain ⟨⟨p, e, below, meth, c, rfl, ⟨hx, hb, hml, hown, hts⟩, hr, hlk, hnm⟩, hK, hNs, hOs, hA⟩ := Γ
  subst hp
  intro H locs ls h1 hD h2 h3
  exact lv_astore hx hb hd h3 hn hl (fun ls' h' => kk H locs ls' h1 hD h2 h')
theorem Z_iinc (Γ : ZC Y l R s m args cc nL own nm ret QQ D cl tys A) {i : Nat} {n : Int} {x v : Int32} (hd : decode cc pc = .ok (.iinc i n, 3)) (q : Nat) (hq : L[q]? = some (i, .int x)) (hv : x + Int32.ofInt n = v) (hn : i < nL) (hl : (i, Value.int v) :: L.filter (fun q => !(q.1 == i) && !(q.1 + 1 == i && q.2.category == 2)) = L') (hp : pc + 3 = pc') (kk : Z Y s m D cl A nL w cn sn pc' L' st) : Z Y s m D cl A nL w cn sn pc L st := by
  obtain ⟨⟨p, e, below, meth, c, rfl, ⟨hx, hb, hml, hown, hts⟩, hr, hlk, hnm⟩, hK, hNs, hOs, hA⟩ := Γ
  subst hp
  intro H locs ls h1 hD h2 h3
  exact lv_iinc hx hb hd h3 hq hv hn hl (fun ls' h' => kk H locs ls' h1 hD h2 h')
theorem Z_iadd (Γ : ZC Y l R s m args cc nL own nm ret QQ D cl tys A) {x y : Int32} (hd : decode cc pc = .ok (.iadd, 1))  (hp : pc + 1 = pc') (kk : Z Y s m D cl A nL w cn sn pc' L (.int (x + y) :: st)) : Z Y s m D cl A nL w cn sn pc L (.int y :: .int x :: st) := by
  obtain ⟨⟨p, e, below, meth, c, rfl, ⟨hx, hb, hml, hown, hts⟩, hr, hlk, hnm⟩, hK, hNs, hOs, hA⟩ := Γ
  subst hp
  intro H locs ls h1 hD h2 h3
  exact lv_iadd hx hb hd (kk H locs ls h1 hD h2 h3)
theorem Z_isub (Γ : ZC Y l R s m args cc nL own nm ret QQ D cl tys A) {x y : Int32} (hd : decode cc pc = .ok (.isub, 1))  (hp : pc + 1 = pc') (kk : Z Y s m D cl A nL w cn sn pc' L (.int (x - y) :: st)) : Z Y s m D cl A nL w cn sn pc L (.int y :: .int x :: st) := by
  obtain ⟨⟨p, e, below, meth, c, rfl, ⟨hx, hb, hml, hown, hts⟩, hr, hlk, hnm⟩, hK, hNs, hOs, hA⟩ := Γ
  subst hp
  intro H locs ls h1 hD h2 h3
  exact lv_isub hx hb hd (kk H locs ls h1 hD h2 h3)
theorem Z_iand (Γ : ZC Y l R s m args cc nL own nm ret QQ D cl tys A) {x y : Int32} (hd : decode cc pc = .ok (.iand, 1))  (hp : pc + 1 = pc') (kk : Z Y s m D cl A nL w cn sn pc' L (.int (x &&& y) :: st)) : Z Y s m D cl A nL w cn sn pc L (.int y :: .int x :: st) := by
  obtain ⟨⟨p, e, below, meth, c, rfl, ⟨hx, hb, hml, hown, hts⟩, hr, hlk, hnm⟩, hK, hNs, hOs, hA⟩ := Γ
  subst hp
  intro H locs ls h1 hD h2 h3
  exact lv_iand hx hb hd (kk H locs ls h1 hD h2 h3)
theorem Z_ior (Γ : ZC Y l R s m args cc nL own nm ret QQ D cl tys A) {x y : Int32} (hd : decode cc pc = .ok (.ior, 1))  (hp : pc + 1 = pc') (kk : Z Y s m D cl A nL w cn sn pc' L (.int (x ||| y) :: st)) : Z Y s m D cl A nL w cn sn pc L (.int y :: .int x :: st) := by
  obtain ⟨⟨p, e, below, meth, c, rfl, ⟨hx, hb, hml, hown, hts⟩, hr, hlk, hnm⟩, hK, hNs, hOs, hA⟩ := Γ
  subst hp
  intro H locs ls h1 hD h2 h3
  exact lv_ior hx hb hd (kk H locs ls h1 hD h2 h3)
theorem Z_ishl (Γ : ZC Y l R s m args cc nL own nm ret QQ D cl tys A) {x y : Int32} (hd : decode cc pc = .ok (.ishl, 1))  (hp : pc + 1 = pc') (kk : Z Y s m D cl A nL w cn sn pc' L (.int (x <<< (y &&& 31)) :: st)) : Z Y s m D cl A nL w cn sn pc L (.int y :: .int x :: st) := by
  obtain ⟨⟨p, e, below, meth, c, rfl, ⟨hx, hb, hml, hown, hts⟩, hr, hlk, hnm⟩, hK, hNs, hOs, hA⟩ := Γ
  subst hp
  intro H locs ls h1 hD h2 h3
  exact lv_ishl hx hb hd (kk H locs ls h1 hD h2 h3)
theorem Z_dup (Γ : ZC Y l R s m args cc nL own nm ret QQ D cl tys A) {va : Value} (hd : decode cc pc = .ok (.dup, 1)) (hva : va.category = 1) (hp : pc + 1 = pc') (kk : Z Y s m D cl A nL w cn sn pc' L (va :: va :: st)) : Z Y s m D cl A nL w cn sn pc L (va :: st) := by
  obtain ⟨⟨p, e, below, meth, c, rfl, ⟨hx, hb, hml, hown, hts⟩, hr, hlk, hnm⟩, hK, hNs, hOs, hA⟩ := Γ
  subst hp
  intro H locs ls h1 hD h2 h3
  exact lv_dup hx hb hd hva (kk H locs ls h1 hD h2 h3)
theorem Z_pop (Γ : ZC Y l R s m args cc nL own nm ret QQ D cl tys A) {va : Value} (hd : decode cc pc = .ok (.pop, 1)) (hva : va.category = 1) (hp : pc + 1 = pc') (kk : Z Y s m D cl A nL w cn sn pc' L st) : Z Y s m D cl A nL w cn sn pc L (va :: st) := by
  obtain ⟨⟨p, e, below, meth, c, rfl, ⟨hx, hb, hml, hown, hts⟩, hr, hlk, hnm⟩, hK, hNs, hOs, hA⟩ := Γ
  subst hp
  intro H locs ls h1 hD h2 h3
  exact lv_pop hx hb hd hva (kk H locs ls h1 hD h2 h3)
theorem Z_goto (Γ : ZC Y l R s m args cc nL own nm ret QQ D cl tys A) {off : Int} (hd : decode cc pc = .ok (.goto off, 3)) (ht : (pc : Int) + off = (pc' : Int)) (kk : Z Y s m D cl A nL w cn sn pc' L st) : Z Y s m D cl A nL w cn sn pc L st := by
  obtain ⟨⟨p, e, below, meth, c, rfl, ⟨hx, hb, hml, hown, hts⟩, hr, hlk, hnm⟩, hK, hNs, hOs, hA⟩ := Γ
  intro H locs ls h1 hD h2 h3
  exact lv_goto hx hb hd ht (kk H locs ls h1 hD h2 h3)
theorem Z_loc (ks : List Nat) (hl : lv_pick L ks = L') (kk : Z Y s m D cl A nL w cn sn pc L' st) : Z Y s m D cl A nL w cn sn pc L st := fun H locs ls h1 hD h2 h3 => kk H locs ls h1 hD h2 (lv_sub h3 ks hl)
theorem Z_tableIn (Γ : ZC Y l R s m args cc nL own nm ret QQ D cl tys A) {dflt lo hi : Int} {offs : Array Int} {len : Nat} {x v : Int32} {off : Int} (hd : decode cc pc = .ok (.tableswitch dflt lo hi offs, len)) (hx0 : x = v) (e1 : ¬ v.toInt < lo) (e2 : ¬ hi < v.toInt) (ho : offs[(v.toInt - lo).toNat]? = some off) (ht : (pc : Int) + off = (pc' : Int)) (kk : Z Y s m D cl A nL w cn sn pc' L st) : Z Y s m D cl A nL w cn sn pc L (.int x :: st) := by
  subst hx0
  obtain ⟨⟨p, e, below, meth, c, rfl, ⟨hx, hb, hml, hown, hts⟩, hr, hlk, hnm⟩, hK, hNs, hOs, hA⟩ := Γ
  intro H locs ls h1 hD h2 h3
  exact lv_tableIn hx hb hd e1 e2 ho ht (kk H locs ls h1 hD h2 h3)
theorem Z_tableOut (Γ : ZC Y l R s m args cc nL own nm ret QQ D cl tys A) {dflt lo hi : Int} {offs : Array Int} {len : Nat} {x : Int32} (hd : decode cc pc = .ok (.tableswitch dflt lo hi offs, len)) (h : x.toInt < lo ∨ hi < x.toInt) (ht : (pc : Int) + dflt = (pc' : Int)) (kk : Z Y s m D cl A nL w cn sn pc' L st) : Z Y s m D cl A nL w cn sn pc L (.int x :: st) := by
  obtain ⟨⟨p, e, below, meth, c, rfl, ⟨hx, hb, hml, hown, hts⟩, hr, hlk, hnm⟩, hK, hNs, hOs, hA⟩ := Γ
  intro H locs ls h1 hD h2 h3
  exact lv_tableOut hx hb hd h ht (kk H locs ls h1 hD h2 h3)
theorem Z_mmax (Γ : ZC Y l R s m args cc nL own nm ret QQ D cl tys A) {x y : Int32} {index : Nat} (hd : decode cc pc = .ok (.invokestatic index, 3)) (hlink : (Cond.methodLink own index Lib.Math.max.name) ∈ wsBig) (hstat : (Cond.static Lib.Math.max.name) ∈ wsBig) (hini : (Cond.initialized "java/lang/Math") ∈ wsBig) (hcode : (Cond.code Lib.Math.max.name Lib.Math.max.code 2 (some .int)) ∈ wsBig) (hfr : 1 ≤ R.frames) (hlo : (st.map fun v => v.category).sum + 13 ≤ R.locals) (hcn : cn ≤ R.cells) (hsn : sn ≤ R.slots) (hp : pc + 3 = pc') (kk : Z Y s m D cl A nL w cn sn pc' L (.int (if x < y then y else x) :: st)) : Z Y s m D cl A nL w cn sn pc L (.int y :: .int x :: st) := by
  obtain ⟨⟨p, e, below, meth, c, rfl, ⟨hx, hb, hml, hown, hts⟩, hr, hlk, hnm⟩, hK, hNs, hOs, hA⟩ := Γ
  subst hp
  intro H locs ls h1 hD h2 h3
  exact va_mmax hx hb (hml.trans h3.1.symm) hown (hts _ hlink) (hts _ hstat) (hts _ hini) (hts _ hcode) hfr hlo hcn hsn hd (kk H locs ls h1 hD h2 h3)
theorem Z_mmin (Γ : ZC Y l R s m args cc nL own nm ret QQ D cl tys A) {x y : Int32} {index : Nat} (hd : decode cc pc = .ok (.invokestatic index, 3)) (hlink : (Cond.methodLink own index Lib.Math.min.name) ∈ wsBig) (hstat : (Cond.static Lib.Math.min.name) ∈ wsBig) (hini : (Cond.initialized "java/lang/Math") ∈ wsBig) (hcode : (Cond.code Lib.Math.min.name Lib.Math.min.code 2 (some .int)) ∈ wsBig) (hfr : 1 ≤ R.frames) (hlo : (st.map fun v => v.category).sum + 13 ≤ R.locals) (hcn : cn ≤ R.cells) (hsn : sn ≤ R.slots) (hp : pc + 3 = pc') (kk : Z Y s m D cl A nL w cn sn pc' L (.int (if y < x then y else x) :: st)) : Z Y s m D cl A nL w cn sn pc L (.int y :: .int x :: st) := by
  obtain ⟨⟨p, e, below, meth, c, rfl, ⟨hx, hb, hml, hown, hts⟩, hr, hlk, hnm⟩, hK, hNs, hOs, hA⟩ := Γ
  subst hp
  intro H locs ls h1 hD h2 h3
  exact va_mmin hx hb (hml.trans h3.1.symm) hown (hts _ hlink) (hts _ hstat) (hts _ hini) (hts _ hcode) hfr hlo hcn hsn hd (kk H locs ls h1 hD h2 h3)
theorem Z_if_eq (Γ : ZC Y l R s m args cc nL own nm ret QQ D cl tys A) {x : Int32} {off : Int} {tgt : Nat} (hd : decode cc pc = .ok (.ifCond .eq off, 3)) (ht : (pc : Int) + off = (tgt : Int)) (hp : pc + 3 = pc') (kt : x = 0 → Z Y s m D cl A nL w cn sn tgt L st) (kf : ¬ x = 0 → Z Y s m D cl A nL w cn sn pc' L st) : Z Y s m D cl A nL w cn sn pc L (.int x :: st) := by
  obtain ⟨⟨p, e, below, meth, c, rfl, ⟨hx, hb, hml, hown, hts⟩, hr, hlk, hnm⟩, hK, hNs, hOs, hA⟩ := Γ
  subst hp
  intro H locs ls h1 hD h2 h3
  exact lv_if_eq hx hb hd ht (fun h => kt h H locs ls h1 hD h2 h3) (fun h => kf h H locs ls h1 hD h2 h3)
theorem Z_if_ne (Γ : ZC Y l R s m args cc nL own nm ret QQ D cl tys A) {x : Int32} {off : Int} {tgt : Nat} (hd : decode cc pc = .ok (.ifCond .ne off, 3)) (ht : (pc : Int) + off = (tgt : Int)) (hp : pc + 3 = pc') (kt : ¬ x = 0 → Z Y s m D cl A nL w cn sn tgt L st) (kf : x = 0 → Z Y s m D cl A nL w cn sn pc' L st) : Z Y s m D cl A nL w cn sn pc L (.int x :: st) := by
  obtain ⟨⟨p, e, below, meth, c, rfl, ⟨hx, hb, hml, hown, hts⟩, hr, hlk, hnm⟩, hK, hNs, hOs, hA⟩ := Γ
  subst hp
  intro H locs ls h1 hD h2 h3
  exact lv_if_ne hx hb hd ht (fun h => kt h H locs ls h1 hD h2 h3) (fun h => kf h H locs ls h1 hD h2 h3)
theorem Z_if_lt (Γ : ZC Y l R s m args cc nL own nm ret QQ D cl tys A) {x : Int32} {off : Int} {tgt : Nat} (hd : decode cc pc = .ok (.ifCond .lt off, 3)) (ht : (pc : Int) + off = (tgt : Int)) (hp : pc + 3 = pc') (kt : x < 0 → Z Y s m D cl A nL w cn sn tgt L st) (kf : ¬ x < 0 → Z Y s m D cl A nL w cn sn pc' L st) : Z Y s m D cl A nL w cn sn pc L (.int x :: st) := by
  obtain ⟨⟨p, e, below, meth, c, rfl, ⟨hx, hb, hml, hown, hts⟩, hr, hlk, hnm⟩, hK, hNs, hOs, hA⟩ := Γ
  subst hp
  intro H locs ls h1 hD h2 h3
  exact lv_if_lt hx hb hd ht (fun h => kt h H locs ls h1 hD h2 h3) (fun h => kf h H locs ls h1 hD h2 h3)
theorem Z_if_ge (Γ : ZC Y l R s m args cc nL own nm ret QQ D cl tys A) {x : Int32} {off : Int} {tgt : Nat} (hd : decode cc pc = .ok (.ifCond .ge off, 3)) (ht : (pc : Int) + off = (tgt : Int)) (hp : pc + 3 = pc') (kt : 0 ≤ x → Z Y s m D cl A nL w cn sn tgt L st) (kf : ¬ 0 ≤ x → Z Y s m D cl A nL w cn sn pc' L st) : Z Y s m D cl A nL w cn sn pc L (.int x :: st) := by
  obtain ⟨⟨p, e, below, meth, c, rfl, ⟨hx, hb, hml, hown, hts⟩, hr, hlk, hnm⟩, hK, hNs, hOs, hA⟩ := Γ
  subst hp
  intro H locs ls h1 hD h2 h3
  exact lv_if_ge hx hb hd ht (fun h => kt h H locs ls h1 hD h2 h3) (fun h => kf h H locs ls h1 hD h2 h3)
theorem Z_if_gt (Γ : ZC Y l R s m args cc nL own nm ret QQ D cl tys A) {x : Int32} {off : Int} {tgt : Nat} (hd : decode cc pc = .ok (.ifCond .gt off, 3)) (ht : (pc : Int) + off = (tgt : Int)) (hp : pc + 3 = pc') (kt : 0 < x → Z Y s m D cl A nL w cn sn tgt L st) (kf : ¬ 0 < x → Z Y s m D cl A nL w cn sn pc' L st) : Z Y s m D cl A nL w cn sn pc L (.int x :: st) := by
  obtain ⟨⟨p, e, below, meth, c, rfl, ⟨hx, hb, hml, hown, hts⟩, hr, hlk, hnm⟩, hK, hNs, hOs, hA⟩ := Γ
  subst hp
  intro H locs ls h1 hD h2 h3
  exact lv_if_gt hx hb hd ht (fun h => kt h H locs ls h1 hD h2 h3) (fun h => kf h H locs ls h1 hD h2 h3)
theorem Z_if_le (Γ : ZC Y l R s m args cc nL own nm ret QQ D cl tys A) {x : Int32} {off : Int} {tgt : Nat} (hd : decode cc pc = .ok (.ifCond .le off, 3)) (ht : (pc : Int) + off = (tgt : Int)) (hp : pc + 3 = pc') (kt : x ≤ 0 → Z Y s m D cl A nL w cn sn tgt L st) (kf : ¬ x ≤ 0 → Z Y s m D cl A nL w cn sn pc' L st) : Z Y s m D cl A nL w cn sn pc L (.int x :: st) := by
  obtain ⟨⟨p, e, below, meth, c, rfl, ⟨hx, hb, hml, hown, hts⟩, hr, hlk, hnm⟩, hK, hNs, hOs, hA⟩ := Γ
  subst hp
  intro H locs ls h1 hD h2 h3
  exact lv_if_le hx hb hd ht (fun h => kt h H locs ls h1 hD h2 h3) (fun h => kf h H locs ls h1 hD h2 h3)
theorem Z_icmp_eq (Γ : ZC Y l R s m args cc nL own nm ret QQ D cl tys A) {x y : Int32} {off : Int} {tgt : Nat} (hd : decode cc pc = .ok (.if_icmp .eq off, 3)) (ht : (pc : Int) + off = (tgt : Int)) (hp : pc + 3 = pc') (kt : x = y → Z Y s m D cl A nL w cn sn tgt L st) (kf : ¬ x = y → Z Y s m D cl A nL w cn sn pc' L st) : Z Y s m D cl A nL w cn sn pc L (.int y :: .int x :: st) := by
  obtain ⟨⟨p, e, below, meth, c, rfl, ⟨hx, hb, hml, hown, hts⟩, hr, hlk, hnm⟩, hK, hNs, hOs, hA⟩ := Γ
  subst hp
  intro H locs ls h1 hD h2 h3
  exact lv_icmp_eq hx hb hd ht (fun h => kt h H locs ls h1 hD h2 h3) (fun h => kf h H locs ls h1 hD h2 h3)
theorem Z_icmp_ne (Γ : ZC Y l R s m args cc nL own nm ret QQ D cl tys A) {x y : Int32} {off : Int} {tgt : Nat} (hd : decode cc pc = .ok (.if_icmp .ne off, 3)) (ht : (pc : Int) + off = (tgt : Int)) (hp : pc + 3 = pc') (kt : ¬ x = y → Z Y s m D cl A nL w cn sn tgt L st) (kf : x = y → Z Y s m D cl A nL w cn sn pc' L st) : Z Y s m D cl A nL w cn sn pc L (.int y :: .int x :: st) := by
  obtain ⟨⟨p, e, below, meth, c, rfl, ⟨hx, hb, hml, hown, hts⟩, hr, hlk, hnm⟩, hK, hNs, hOs, hA⟩ := Γ
  subst hp
  intro H locs ls h1 hD h2 h3
  exact lv_icmp_ne hx hb hd ht (fun h => kt h H locs ls h1 hD h2 h3) (fun h => kf h H locs ls h1 hD h2 h3)
theorem Z_icmp_lt (Γ : ZC Y l R s m args cc nL own nm ret QQ D cl tys A) {x y : Int32} {off : Int} {tgt : Nat} (hd : decode cc pc = .ok (.if_icmp .lt off, 3)) (ht : (pc : Int) + off = (tgt : Int)) (hp : pc + 3 = pc') (kt : x < y → Z Y s m D cl A nL w cn sn tgt L st) (kf : ¬ x < y → Z Y s m D cl A nL w cn sn pc' L st) : Z Y s m D cl A nL w cn sn pc L (.int y :: .int x :: st) := by
  obtain ⟨⟨p, e, below, meth, c, rfl, ⟨hx, hb, hml, hown, hts⟩, hr, hlk, hnm⟩, hK, hNs, hOs, hA⟩ := Γ
  subst hp
  intro H locs ls h1 hD h2 h3
  exact lv_icmp_lt hx hb hd ht (fun h => kt h H locs ls h1 hD h2 h3) (fun h => kf h H locs ls h1 hD h2 h3)
theorem Z_icmp_ge (Γ : ZC Y l R s m args cc nL own nm ret QQ D cl tys A) {x y : Int32} {off : Int} {tgt : Nat} (hd : decode cc pc = .ok (.if_icmp .ge off, 3)) (ht : (pc : Int) + off = (tgt : Int)) (hp : pc + 3 = pc') (kt : y ≤ x → Z Y s m D cl A nL w cn sn tgt L st) (kf : ¬ y ≤ x → Z Y s m D cl A nL w cn sn pc' L st) : Z Y s m D cl A nL w cn sn pc L (.int y :: .int x :: st) := by
  obtain ⟨⟨p, e, below, meth, c, rfl, ⟨hx, hb, hml, hown, hts⟩, hr, hlk, hnm⟩, hK, hNs, hOs, hA⟩ := Γ
  subst hp
  intro H locs ls h1 hD h2 h3
  exact lv_icmp_ge hx hb hd ht (fun h => kt h H locs ls h1 hD h2 h3) (fun h => kf h H locs ls h1 hD h2 h3)
theorem Z_icmp_gt (Γ : ZC Y l R s m args cc nL own nm ret QQ D cl tys A) {x y : Int32} {off : Int} {tgt : Nat} (hd : decode cc pc = .ok (.if_icmp .gt off, 3)) (ht : (pc : Int) + off = (tgt : Int)) (hp : pc + 3 = pc') (kt : y < x → Z Y s m D cl A nL w cn sn tgt L st) (kf : ¬ y < x → Z Y s m D cl A nL w cn sn pc' L st) : Z Y s m D cl A nL w cn sn pc L (.int y :: .int x :: st) := by
  obtain ⟨⟨p, e, below, meth, c, rfl, ⟨hx, hb, hml, hown, hts⟩, hr, hlk, hnm⟩, hK, hNs, hOs, hA⟩ := Γ
  subst hp
  intro H locs ls h1 hD h2 h3
  exact lv_icmp_gt hx hb hd ht (fun h => kt h H locs ls h1 hD h2 h3) (fun h => kf h H locs ls h1 hD h2 h3)
theorem Z_icmp_le (Γ : ZC Y l R s m args cc nL own nm ret QQ D cl tys A) {x y : Int32} {off : Int} {tgt : Nat} (hd : decode cc pc = .ok (.if_icmp .le off, 3)) (ht : (pc : Int) + off = (tgt : Int)) (hp : pc + 3 = pc') (kt : x ≤ y → Z Y s m D cl A nL w cn sn tgt L st) (kf : ¬ x ≤ y → Z Y s m D cl A nL w cn sn pc' L st) : Z Y s m D cl A nL w cn sn pc L (.int y :: .int x :: st) := by
  obtain ⟨⟨p, e, below, meth, c, rfl, ⟨hx, hb, hml, hown, hts⟩, hr, hlk, hnm⟩, hK, hNs, hOs, hA⟩ := Γ
  subst hp
  intro H locs ls h1 hD h2 h3
  exact lv_icmp_le hx hb hd ht (fun h => kt h H locs ls h1 hD h2 h3) (fun h => kf h H locs ls h1 hD h2 h3)
theorem Z_world (hw : ∀ H, va_P D cl w H → va_P D cl w' H) (hd : va_D A w → va_D A w') (kk : Z Y s m D cl A nL w' cn sn pc L st) : Z Y s m D cl A nL w cn sn pc L st := fun H locs ls h1 hD h2 h3 => kk H locs ls (hw H h1) (hd hD) h2 h3
theorem Z_apart (kk : va_D A w → Z Y s m D cl A nL w cn sn pc L st) : Z Y s m D cl A nL w cn sn pc L st := fun H locs ls h1 hD h2 h3 => kk hD H locs ls h1 hD h2 h3
theorem xJ_of {N : Nat} {a : Nat → Nat} {E : Nat → va_E} (hD : va_D A (xw N a E)) : xJ N a := fun i j hi hj e => hD.1 i j _ _ (xw_at hi) (xw_at hj) e
theorem Z_widen (Γ : ZC Y l R s m args cc nL own nm ret QQ D cl tys A) {cn' sn' : Nat} (h1 : cn ≤ cn') (h2 : sn ≤ sn') (kk : Z Y s m D cl A nL w cn' sn' pc L st) : Z Y s m D cl A nL w cn sn pc L st := by
  obtain ⟨⟨p, e, below, meth, c, rfl, ⟨hx, hb, hml, hown, hts⟩, hr, hlk, hnm⟩, hK, hNs, hOs, hA⟩ := Γ
  intro H locs ls g1 gD g2 g3
  exact W.widen h1 h2 (kk H locs ls g1 gD g2 g3)
theorem Z_obj (Γ : ZC Y l R s m args cc nL own nm ret QQ D cl tys A) {b index : Nat} (hd : decode cc pc = .ok (.invokespecial index, 3)) (hl : Cond.methodLink own index Lib.objectInit ∈ wsBig) (hi : Cond.instanceMethod Lib.objectInit ∈ wsBig) (hc : Cond.code Lib.objectInit ⟨#[0xb1]⟩ 1 none ∈ wsBig) (hfr : 1 ≤ R.frames) (hlo : (st.map fun v => v.category).sum + 12 ≤ R.locals) (hp : pc + 3 = pc') (kk : Z Y s m D cl A nL w cn sn pc' L st) : Z Y s m D cl A nL w cn sn pc L (.ref b :: st) := by
  obtain ⟨⟨p, e, below, meth, c, rfl, ⟨hx, hb, hml, hown, hts⟩, hr, hlk, hnm⟩, hK, hNs, hOs, hA⟩ := Γ
  subst hp
  intro H locs ls h1 hD h2 h3
  refine W.objInit hx hb hown (hts _ hl) (hts _ hi) (hts _ hc) rfl (by rw [hml]; exact h3.1) rfl hd hfr (by show 2 * 0 + _ + 12 ≤ _; omega) ?_
  exact kk H locs ls h1 hD h2 h3
theorem Z_new (Γ : ZC Y l R s m args cc nL own nm ret QQ D cl tys A) {C : String} {T : u_T} {F ci index : Nat} {fs : List Value} (hd : decode cc pc = .ok (.new index, 3)) (hc : cl[ci]? = some (C, T, F)) (hin : ∀ w ∈ u_ws C T F, w ∈ wsBig) (ty0 : Nat → FieldType) (hty : ∀ k, k < F → parseFieldDescriptor (T k).2.2.1 = some (ty0 k)) (hcl : Cond.classLink own index C ∈ wsBig) (hins : Cond.instantiable C F ∈ wsBig) (hini : Cond.initialized C ∈ wsBig) (hfs : ∀ j, j < F → defaultValue (ty0 j) = vp_V fs j) (hcn : cn + 1 ≤ R.cells) (hsn : sn + F ≤ R.slots) (hp : pc + 3 = pc') (kk : ∀ q : Nat, Z Y s m D cl A nL (w ++ [(q, .inr (ci, fs))]) (cn + 1) (sn + F) pc' L (.ref q :: st)) : Z Y s m D cl A nL w cn sn pc L st := by
  obtain ⟨⟨p, e, below, meth, c, rfl, ⟨hx, hb, hml, hown, hts⟩, hr, hlk, hnm⟩, hK, hNs, hOs, hA⟩ := Γ
  subst hp
  intro H locs ls h1 hD h2 h3
  exact va_new hx hb hts hin ty0 hty hown (hts _ hcl) (hts _ hins) (hts _ hini) hK h1 hD h2 hA hc hfs hcn hsn hd (fun q H1 g1 gD g2 => kk q H1 locs ls g1 gD g2 h3)
theorem Z_newai (Γ : ZC Y l R s m args cc nL own nm ret QQ D cl tys A) {n : Int32} {N' : Nat} {cA : ClassId} (hd : decode cc pc = .ok (.newarray .int, 2)) (t0 : Nat) (ht : tys[t0]? = some (cA, .int)) (harr : Cond.arrayClass .int ∈ wsBig) (hn : ¬ n < 0) (hN : n.toNatClampNeg = N') (hby : N' * componentBytes .int ≤ 536870912) (hcn : cn + 1 ≤ R.cells) (hsn : sn + N' ≤ R.slots) (hp : pc + 2 = pc') (kk : ∀ q : Nat, Z Y s m D cl A nL (w ++ [(q, .inl (cA, N', .inl (fun _ => 0)))]) (cn + 1) (sn + N') pc' L (.ref q :: st)) : Z Y s m D cl A nL w cn sn pc L (.int n :: st) := by
  obtain ⟨⟨p, e, below, meth, c, rfl, ⟨hx, hb, hml, hown, hts⟩, hr, hlk, hnm⟩, hK, hNs, hOs, hA⟩ := Γ
  subst hp
  intro H locs ls h1 hD h2 h3
  refine va_newa hx hb (atype := .int) (ty := .int) (hts _ harr) rfl hK h1 hD h2 hA (a0 := (N', .inl (fun _ => 0))) (fun _ => rfl) hn hN hby hcn hsn hd (fun q cA1 H1 gK g1 gD g2 => ?_)
  have e1 := va_nm_int (hK.2 t0 _ ht).2
  have e2 := va_nm_int (gK.2 tys.length (cA1, .int) (by simp)).2
  have e3 : cA1 = cA := Option.some.inj (e2.symm.trans e1)
  subst e3
  exact kk q H1 locs ls g1 gD g2 h3
theorem Z_newaz (Γ : ZC Y l R s m args cc nL own nm ret QQ D cl tys A) {n : Int32} {N' : Nat} {cA : ClassId} (hd : decode cc pc = .ok (.newarray .boolean, 2)) (t0 : Nat) (ht : tys[t0]? = some (cA, .boolean)) (harr : Cond.arrayClass .boolean ∈ wsBig) (hn : ¬ n < 0) (hN : n.toNatClampNeg = N') (hby : N' * componentBytes .boolean ≤ 536870912) (hcn : cn + 1 ≤ R.cells) (hsn : sn + N' ≤ R.slots) (hp : pc + 2 = pc') (kk : ∀ q : Nat, Z Y s m D cl A nL (w ++ [(q, .inl (cA, N', .inl (fun _ => 0)))]) (cn + 1) (sn + N') pc' L (.ref q :: st)) : Z Y s m D cl A nL w cn sn pc L (.int n :: st) := by
  obtain ⟨⟨p, e, below, meth, c, rfl, ⟨hx, hb, hml, hown, hts⟩, hr, hlk, hnm⟩, hK, hNs, hOs, hA⟩ := Γ
  subst hp
  intro H locs ls h1 hD h2 h3
  refine va_newa hx hb (atype := .boolean) (ty := .boolean) (hts _ harr) rfl hK h1 hD h2 hA (a0 := (N', .inl (fun _ => 0))) (fun _ => rfl) hn hN hby hcn hsn hd (fun q cA1 H1 gK g1 gD g2 => ?_)
  have e1 := va_nm_boolean (hK.2 t0 _ ht).2
  have e2 := va_nm_boolean (gK.2 tys.length (cA1, .boolean) (by simp)).2
  have e3 : cA1 = cA := Option.some.inj (e2.symm.trans e1)
  subst e3
  exact kk q H1 locs ls g1 gD g2 h3
theorem Z_newq (Γ : ZC Y l R s m args cc nL own nm ret QQ D cl tys A) {n : Int32} {N' index : Nat} {cA : ClassId} {C : String} (hd : decode cc pc = .ok (.anewarray index, 3)) (t0 : Nat) (ht : tys[t0]? = some (cA, .object C)) (hcl : Cond.classLink own index C ∈ wsBig) (hov : xO s → va_AO C s) (hn : ¬ n < 0) (hN : n.toNatClampNeg = N') (hby : N' * 4 ≤ 536870912) (hcn : cn + 1 ≤ R.cells) (hsn : sn + N' ≤ R.slots) (hp : pc + 3 = pc') (kk : ∀ q : Nat, Z Y s m D cl A nL (w ++ [(q, .inl (cA, N', .inr (.inr (.inr (.inr (fun _ => none))))))]) (cn + 1) (sn + N') pc' L (.ref q :: st)) : Z Y s m D cl A nL w cn sn pc L (.int n :: st) := by
  obtain ⟨⟨p, e, below, meth, c, rfl, ⟨hx, hb, hml, hown, hts⟩, hr, hlk, hnm⟩, hK, hNs, hOs, hA⟩ := Γ
  subst hp
  intro H locs ls h1 hD h2 h3
  refine va_newq hx hb hown (hts _ hcl) (hov hOs) hK h1 hD h2 hA hn hN hby hcn hsn hd (fun q cA1 H1 gK g1 gD g2 => ?_)
  obtain ⟨_, _, _, _, _, e1⟩ := (hK.2 t0 _ ht).2
  obtain ⟨_, _, _, _, _, e2⟩ := (gK.2 tys.length (cA1, .object C) (by simp)).2
  have e3 : cA1 = cA := Option.some.inj (e2.symm.trans e1)
  subst e3
  exact kk q H1 locs ls g1 gD g2 h3
theorem Z_putF (Γ : ZC Y l R s m args cc nL own nm ret QQ D cl tys A) {ref C : String} {T : u_T} {F ci index b : Nat} {fs : List Value} {v : Value} {ty : FieldType} (hd : decode cc pc = .ok (.putfield index, 3)) (q0 : Nat) (he : w[q0]? = some (b, .inr (ci, fs))) (hc : cl[ci]? = some (C, T, F)) (hin : ∀ w ∈ u_ws C T F, w ∈ wsBig) (k : Nat) (hkF : k < F) (hlink : Cond.fieldLink own index ref (T k).2.1 (T k).2.2.1 ∈ wsBig) (hsame : ref = (T k).1) (ty0 : Nat → FieldType) (hty : ∀ k, k < F → parseFieldDescriptor (T k).2.2.1 = some (ty0 k)) (hnmd : ∀ a, a < F → ∀ b, b < F → a ≠ b → (T a).2.1 ≠ (T b).2.1) (hfin : (T k).2.2.2 = true) (hni : nm = "<init>") (hde9 : (T k).1 = own) (hde : parseFieldDescriptor (T k).2.2.1 = some ty) (hna : narrow ty v = v) (hfi : fits ty v = true) (hl : k < fs.length) (hp : pc + 3 = pc') (kk : Z Y s m D cl A nL (w.set q0 (b, .inr (ci, fs.set k v))) cn sn pc' L st) : Z Y s m D cl A nL w cn sn pc L (v :: .ref b :: st) := by
  obtain ⟨⟨p, e, below, meth, c, rfl, ⟨hx, hb, hml, hown, hts⟩, hr, hlk, hnm⟩, hK, hNs, hOs, hA⟩ := Γ
  subst hp
  intro H locs ls h1 hD h2 h3
  exact va_putF hx hb hts hin ty0 hty hnmd hown hK h1 hD h2 q0 he hc k hkF (hts _ hlink) (fun x9 h9 => by rw [hsame]; exact h9) hfin (hnm.trans hni) hde9 hde hna hfi hl hd (fun H1 locs1 g1 gD g2 => kk H1 locs1 ls g1 gD g2 h3)
theorem Z_put (Γ : ZC Y l R s m args cc nL own nm ret QQ D cl tys A) {ref C : String} {T : u_T} {F ci index b : Nat} {fs : List Value} {v : Value} {ty : FieldType} (hd : decode cc pc = .ok (.putfield index, 3)) (q0 : Nat) (he : w[q0]? = some (b, .inr (ci, fs))) (hc : cl[ci]? = some (C, T, F)) (hin : ∀ w ∈ u_ws C T F, w ∈ wsBig) (k : Nat) (hkF : k < F) (hlink : Cond.fieldLink own index ref (T k).2.1 (T k).2.2.1 ∈ wsBig) (hsame : ref = (T k).1) (ty0 : Nat → FieldType) (hty : ∀ k, k < F → parseFieldDescriptor (T k).2.2.1 = some (ty0 k)) (hnmd : ∀ a, a < F → ∀ b, b < F → a ≠ b → (T a).2.1 ≠ (T b).2.1) (hfin : (T k).2.2.2 = false)  (hde : parseFieldDescriptor (T k).2.2.1 = some ty) (hna : narrow ty v = v) (hfi : fits ty v = true) (hl : k < fs.length) (hp : pc + 3 = pc') (kk : Z Y s m D cl A nL (w.set q0 (b, .inr (ci, fs.set k v))) cn sn pc' L st) : Z Y s m D cl A nL w cn sn pc L (v :: .ref b :: st) := by
  obtain ⟨⟨p, e, below, meth, c, rfl, ⟨hx, hb, hml, hown, hts⟩, hr, hlk, hnm⟩, hK, hNs, hOs, hA⟩ := Γ
  subst hp
  intro H locs ls h1 hD h2 h3
  exact va_put hx hb hts hin ty0 hty hnmd hown hK h1 hD h2 q0 he hc k hkF (hts _ hlink) (fun x9 h9 => by rw [hsame]; exact h9) hfin hde hna hfi hl hd (fun H1 locs1 g1 gD g2 => kk H1 locs1 ls g1 gD g2 h3)
theorem Z_get (Γ : ZC Y l R s m args cc nL own nm ret QQ D cl tys A) {ref C : String} {T : u_T} {F ci index b : Nat} {fs : List Value} {v : Value} (hd : decode cc pc = .ok (.getfield index, 3)) (q0 : Nat) (he : w[q0]? = some (b, .inr (ci, fs))) (hc : cl[ci]? = some (C, T, F)) (hin : ∀ w ∈ u_ws C T F, w ∈ wsBig) (k : Nat) (hkF : k < F) (hlink : Cond.fieldLink own index ref (T k).2.1 (T k).2.2.1 ∈ wsBig) (hsame : ref = (T k).1) (hv : fs[k]? = some v) (hp : pc + 3 = pc') (kk : Z Y s m D cl A nL w cn sn pc' L (v :: st)) : Z Y s m D cl A nL w cn sn pc L (.ref b :: st) := by
  obtain ⟨⟨p, e, below, meth, c, rfl, ⟨hx, hb, hml, hown, hts⟩, hr, hlk, hnm⟩, hK, hNs, hOs, hA⟩ := Γ
  subst hp
  intro H locs ls h1 hD h2 h3
  exact va_get hx hb hts hin hown hK h1 q0 he hc k hkF (hts _ hlink) (fun x9 h9 => by rw [hsame]; exact h9) hv hd (kk H locs ls h1 hD h2 h3)
theorem Z_iast (Γ : ZC Y l R s m args cc nL own nm ret QQ D cl tys A) {b len kx : Nat} {cA : ClassId} {i v : Int32} {f : Nat → Int32} (hd : decode cc pc = .ok (.iastore, 1)) (q0 : Nat) (he : w[q0]? = some (b, .inl (cA, len, .inl f))) (t0 : Nat) (ht : tys[t0]? = some (cA, .int)) (hi : vp_in i len) (hx9 : i.toNatClampNeg = kx) (hp : pc + 1 = pc') (kk : Z Y s m D cl A nL (w.set q0 (b, .inl (cA, len, .inl (va_up f kx v)))) cn sn pc' L st) : Z Y s m D cl A nL w cn sn pc L (.int v :: .int i :: .ref b :: st) := by
  obtain ⟨⟨p, e, below, meth, c, rfl, ⟨hx, hb, hml, hown, hts⟩, hr, hlk, hnm⟩, hK, hNs, hOs, hA⟩ := Γ
  subst hx9
  subst hp
  intro H locs ls h1 hD h2 h3
  refine va_iast hx hb hK h1 hD h2 q0 t0 he ht hi hd (fun H1 locs1 g1 gD g2 => ?_)
  exact kk H1 locs1 ls g1 gD g2 h3
theorem Z_zast (Γ : ZC Y l R s m args cc nL own nm ret QQ D cl tys A) {b len kx : Nat} {cA : ClassId} {i v : Int32} {f : Nat → Int32} (hd : decode cc pc = .ok (.bastore, 1)) (q0 : Nat) (he : w[q0]? = some (b, .inl (cA, len, .inl f))) (t0 : Nat) (ht : tys[t0]? = some (cA, .boolean)) (hi : vp_in i len) (hz : vp_nar .boolean v = v) (hx9 : i.toNatClampNeg = kx) (hp : pc + 1 = pc') (kk : Z Y s m D cl A nL (w.set q0 (b, .inl (cA, len, .inl (va_up f kx v)))) cn sn pc' L st) : Z Y s m D cl A nL w cn sn pc L (.int v :: .int i :: .ref b :: st) := by
  obtain ⟨⟨p, e, below, meth, c, rfl, ⟨hx, hb, hml, hown, hts⟩, hr, hlk, hnm⟩, hK, hNs, hOs, hA⟩ := Γ
  subst hx9
  subst hp
  intro H locs ls h1 hD h2 h3
  refine va_zast hx hb hK h1 hD h2 q0 t0 he ht hi hd (fun H1 locs1 g1 gD g2 => ?_)
  rw [hz] at g1 gD
  exact kk H1 locs1 ls g1 gD g2 h3
theorem Z_aast (Γ : ZC Y l R s m args cc nL own nm ret QQ D cl tys A) {b len ci y : Nat} {cA : ClassId} {r : vw_C} {vs : List Value} {i : Int32} {f : Nat → Option Nat} {kx : Nat} (hd : decode cc pc = .ok (.aastore, 1)) (q0 : Nat) (he : w[q0]? = some (b, .inl (cA, len, .inr (.inr (.inr (.inr f)))))) (t0 : Nat) (ht : tys[t0]? = some (cA, .object r.1)) (qk : Nat) (hv : w[qk]? = some (y, .inr (ci, vs))) (hc : cl[ci]? = some r) (hi : vp_in i len) (hx9 : i.toNatClampNeg = kx) (hp : pc + 1 = pc') (kk : Z Y s m D cl A nL (w.set q0 (b, .inl (cA, len, .inr (.inr (.inr (.inr (va_up f kx (some y)))))))) cn sn pc' L st) : Z Y s m D cl A nL w cn sn pc L (.ref y :: .int i :: .ref b :: st) := by
  obtain ⟨⟨p, e, below, meth, c, rfl, ⟨hx, hb, hml, hown, hts⟩, hr, hlk, hnm⟩, hK, hNs, hOs, hA⟩ := Γ
  subst hx9
  subst hp
  intro H locs ls h1 hD h2 h3
  exact va_astq hx hb hK h1 hD h2 q0 t0 qk ci he ht hv hc hi hd (fun H1 locs1 g1 gD g2 => kk H1 locs1 ls g1 gD g2 h3)
/-- a constructor's start and end: of its one cell it makes a world, whose new addresses are u 0, u 1 .. -/
abbrev zP (D : va_G) (cl : List vw_C) (tys : List (ClassId × FieldType)) (b : Nat) (e0 : va_E) (sz : Nat) (As : List Value) : Array Value → State → Prop := va_Pc (.ref b :: As) (fun U => U.heap.size = sz ∧ va_P D cl [(b, e0)] U.heap ∧ va_K D cl tys U ∧ xN U ∧ xO U)
abbrev zQ (D : va_G) (cl : List vw_C) (b : Nat) (e0 : va_E) (sz : Nat) (pu : (Nat → Nat) → Prop) (w1 : (Nat → Nat) → va_W) : Array Value → State → Outcome → State → Prop := va_Qv (S := Nat → Nat) pu (fun u t => va_P D cl (w1 u) t.heap ∧ va_D (va_A [(b, e0)] sz) (w1 u)) (va_A [(b, e0)] sz)
theorem zD1 {b sz : Nat} {e0 : va_E} : va_D (va_A [(b, e0)] sz) [(b, e0)] := by
  have h : ∀ (k : Nat) (q : Nat × va_E), [(b, e0)][k]? = some q → k = 0 ∧ q = (b, e0) := fun k q hk => by
    cases k with
    | zero => exact ⟨rfl, (Option.some.inj hk).symm⟩
    | succ k => simp at hk
  refine ⟨fun i j p q hp hq _ => ?_, fun k q hk => ?_⟩
  · rw [(h i p hp).1, (h j q hq).1]
  · rw [(h k q hk).2]
    exact Or.inl ⟨0, e0, rfl⟩
theorem Z_met {y : MethodName} {rm : Room} {b sz mc ms : Nat} {e0 : va_E} {pu : (Nat → Nat) → Prop} {w1 : (Nat → Nat) → va_W} {As : List Value} (hy : plainName y.cls = true) (ho : y.cls = own) (hnm : y.name = nm) (hlen : (lg_sl (.ref b :: As)).length ≤ nL)
    (body : ∀ (Y : Nat → Nat → Heap → List Loc → JFrame → Prop) (s : State) (m : MethodId) (args : Array Value), ZC Y l rm s m args cc nL own nm ret (fun below => MQ below (zQ D cl b e0 sz pu w1) args s mc ms (va_A [(b, e0)] sz)) D cl tys (va_A [(b, e0)] sz) → Z Y s m D cl (va_A [(b, e0)] sz) nL [(b, e0)] 0 0 0 (lv_args 0 (.ref b :: As)) []) : Met l y (Cond.code y cc nL ret :: wsBig) rm (zP D cl tys b e0 sz As) (zQ D cl b e0 sz pu w1) mc ms (va_A [(b, e0)] sz) := by
  subst ho
  subst hnm
  refine Met.ofW (cc := cc) (maxL := nL) (ret := ret) hy rfl ?_
  intro p e s m args below meth c s₁ B hml hv
  obtain ⟨rfl, hsz, hP, hK, hNs, hOs⟩ := hv
  subst hsz
  rw [lg_entry_eq]
  have hl := lv_entry (.ref b :: As) hlen
  exact body (fun cn sn H locs g => W p l e rm s m (Value.ref b :: As).toArray below meth c H locs cn sn (MQ below (zQ D cl b e0 s.heap.size pu w1) (Value.ref b :: As).toArray s mc ms (va_A [(b, e0)] s.heap.size)) g) s m (Value.ref b :: As).toArray ⟨⟨p, e, below, meth, c, rfl, ⟨B.exec, B.bytes, hml, findClass_of_methodNamed B.named, fun w hw => atoms_spec (ws := Cond.code y cc nL ret :: wsBig) B.pre w (List.mem_cons_of_mem _ hw)⟩, B.returns, B.notSynchronized, (name_of_methodNamed B.named B.method).1⟩, hK, hNs, hOs, fun q hq => Or.inr hq⟩ s.heap [] _ hP zD1 va_S.rf hl
theorem Z_ret {b sz mc ms : Nat} {e0 : va_E} {pu : (Nat → Nat) → Prop} {w1 : (Nat → Nat) → va_W} (Γ : ZC Y l R s m args cc nL own nm none (fun below => MQ below (zQ D cl b e0 sz pu w1) args s mc ms (va_A [(b, e0)] sz)) D cl tys (va_A [(b, e0)] sz)) (hd : decode cc pc = .ok (.return_, 1)) (u : Nat → Nat) (hu : pu u) (hw : w1 u = w) (hc : cn ≤ mc) (hs : sn ≤ ms) : Z Y s m D cl (va_A [(b, e0)] sz) nL w cn sn pc L [] := by
  obtain ⟨⟨p, e, below, meth, c, rfl, ⟨hx, hb, hml, hown, hts⟩, hr, hlk, hnm⟩, hK, hNs, hOs, hA⟩ := Γ
  subst hw
  intro H locs ls h1 hD h2 h3
  refine W.widen hc hs ?_
  exact W.vret hx hb hr (fun t ht hW => ⟨⟨u, rfl, hu, ⟨by rw [ht]; exact h1, hD⟩⟩, h2.F ht⟩) h2.2.2 hd hlk
theorem nd_of : ∀ l : List Nat, l.Nodup → va_nd l = true
  | [], _ => rfl
  | a :: l, h => by
    have h2 := List.nodup_cons.mp h
    simp [va_nd, h2.1, nd_of l h2.2]
theorem Z_eq (hw : w = w') (kk : Z Y s m D cl A nL w' cn sn pc L st) : Z Y s m D cl A nL w cn sn pc L st := hw ▸ kk
theorem Z_join {pc0 : Nat} {st0 : List Value} (j : Nat) (v0 : Int32) (st1 : List Value) (body : (∀ v : Int32, v = v0 → Z Y s m D cl A nL w cn sn j L (.int v :: st1)) → Z Y s m D cl A nL w cn sn pc0 L st0) (kk : ∀ v : Int32, v = v0 → Z Y s m D cl A nL w cn sn j L (.int v :: st1)) : Z Y s m D cl A nL w cn sn pc0 L st0 := body kk
theorem Z_callI (Γ : ZC Y l R s m args cc nL own nm ret QQ D cl tys A) {y : MethodName} {bytes : ByteArray} {maxL n index b mc ms : Nat} {rm : Room} {As rest : List Value} {e0 : va_E} {pu : (Nat → Nat) → Prop} {w1 : (Nat → Nat) → va_W} {wr : va_W} (hd : decode cc pc = .ok (.invokespecial index, 3)) (hM : ∀ sz : Nat, Met l y (Cond.code y bytes maxL none :: wsBig) rm (zP D cl tys b e0 sz As) (zQ D cl b e0 sz pu w1) mc ms (va_A [(b, e0)] sz)) (hl : Cond.methodLink own index y ∈ wsBig) (hi : Cond.instanceMethod y ∈ wsBig) (hni : y.name = "<init>") (hini : Cond.initialized y.cls ∈ wsBig) (hco : Cond.code y bytes maxL none ∈ wsBig) (hde : y.cls ≠ "java/lang/invoke/MethodHandle" ∧ y.cls ≠ "java/lang/invoke/VarHandle" ∧ (parseMethodDescriptor y.desc).map (fun d => d.parameters.length) = some n) (hR : rm.frames + 1 ≤ R.frames ∧ 8 + (maxL + 11) + rm.locals ≤ R.locals) (hz : rm.cells = mc ∧ rm.slots = ms) (hn : As.length = n) (hst : As.reverse ++ .ref b :: rest = st) (hrm : (rest.map fun v => v.category).sum ≤ 8) (hcn : cn + mc ≤ R.cells ∧ sn + ms ≤ R.slots) (hp : pc + 3 = pc') (kk : ∀ u : Nat → Nat, pu u → Z Y s m D cl A nL (wr ++ w1 u) (cn + mc) (sn + ms) pc' L rest) : Z Y s m D cl A nL (wr ++ [(b, e0)]) cn sn pc L st := by
  subst hst
  obtain ⟨⟨p, e, below, meth, c, rfl, ⟨hx, hb, hml, hown, hts⟩, hr, hlk, hnm⟩, hK, hNs, hOs, hA⟩ := Γ
  subst hp
  intro H locs ls h1 hD h2 h3
  have hC : [wr.length].map (fun i => (wr ++ [(b, e0)])[i]?) = [(b, e0)].map some := by simp
  have hR9 : (List.range wr.length).map (fun i => (wr ++ [(b, e0)])[i]?) = wr.map some := by
    apply List.ext_getElem
    · simp
    · intro i g1 g2
      simp at g1
      simp only [List.getElem_map, List.getElem_range]
      rw [List.getElem?_append_left g1, List.getElem?_eq_getElem g1]
  have hPc : va_P D cl [(b, e0)] H := h1.sub [wr.length] (by simp)
  have hFc := va_free (wc := [(b, e0)]) hD h2 hA [wr.length] hC
  refine va_callv (va_runI (As := As) (rest := rest) ⟨hx, hb, hml, hown, hts⟩ (hM H.size) ⟨callB_of n hts (bigIn hco) rfl hz.1 hz.2 (hts _ hini) (hts _ hl) hde hR, hni, hts _ hi⟩ ⟨fun a9 U g9 mk q9 => ⟨q9.1, q9.2.1, q9.2.2.1, va_K.moved (u := U) (U := U.calling g9 mk a9) (Vm.Alike.refl U.vm) q9.2.2.2.1, xN.same (u := U) (U := U.calling g9 mk a9) rfl q9.2.2.2.2.1, xO.moved (u := U) (U := U.calling g9 mk a9) (Vm.Alike.refl U.vm) q9.2.2.2.2.2⟩, fun U hU hW => ⟨rfl, by rw [hU], by rw [hU]; exact hPc, va_K.moved hW.alike hK, xN.warm hW hNs, xO.moved hW.alike hOs⟩⟩ rfl hn h3.1 rfl (lv_room hrm) hd hcn) h2 (fun q9 _ h9 => hFc q9 h9) hFc (fun u t H1 locs1 ht hvm hpo hB hz9 hk hS => ?_)
  obtain ⟨hP1, hD1⟩ := hB
  rw [ht] at hP1
  obtain ⟨gP, gD⟩ := va_join (wr := wr) (w1 := w1 u) h1 hD [wr.length] (List.range wr.length) hC hR9 (nd_of _ List.nodup_range) (fun i hi9 h9 => by simp at hi9 h9; omega) hk hFc hP1 hD1
  exact kk u hpo H1 locs1 ls gP gD hS h3
theorem Z_callIN (Γ : ZC Y l R s m args cc nL own nm ret QQ D cl tys A) {y : MethodName} {bytes : ByteArray} {maxL n index b mc ms : Nat} {rm : Room} {As rest : List Value} {host : String} {e0 : va_E} {pu : (Nat → Nat) → Prop} {w1 : (Nat → Nat) → va_W} {wr : va_W} (hd : decode cc pc = .ok (.invokespecial index, 3)) (hM : ∀ sz : Nat, Met l y (Cond.code y bytes maxL none :: wsBig) rm (zP D cl tys b e0 sz As) (zQ D cl b e0 sz pu w1) mc ms (va_A [(b, e0)] sz)) (hl : Cond.methodLinkNest own index y host ∈ xnl) (hi : Cond.instanceMethod y ∈ wsBig) (hni : y.name = "<init>") (hini : Cond.initialized y.cls ∈ wsBig) (hco : Cond.code y bytes maxL none ∈ wsBig) (hde : y.cls ≠ "java/lang/invoke/MethodHandle" ∧ y.cls ≠ "java/lang/invoke/VarHandle" ∧ (parseMethodDescriptor y.desc).map (fun d => d.parameters.length) = some n) (hR : rm.frames + 1 ≤ R.frames ∧ 8 + (maxL + 11) + rm.locals ≤ R.locals) (hz : rm.cells = mc ∧ rm.slots = ms) (hn : As.length = n) (hst : As.reverse ++ .ref b :: rest = st) (hrm : (rest.map fun v => v.category).sum ≤ 8) (hcn : cn + mc ≤ R.cells ∧ sn + ms ≤ R.slots) (hp : pc + 3 = pc') (kk : ∀ u : Nat → Nat, pu u → Z Y s m D cl A nL (wr ++ w1 u) (cn + mc) (sn + ms) pc' L rest) : Z Y s m D cl A nL (wr ++ [(b, e0)]) cn sn pc L st := by
  subst hst
  obtain ⟨⟨p, e, below, meth, c, rfl, ⟨hx, hb, hml, hown, hts⟩, hr, hlk, hnm⟩, hK, hNs, hOs, hA⟩ := Γ
  subst hp
  intro H locs ls h1 hD h2 h3
  have hC : [wr.length].map (fun i => (wr ++ [(b, e0)])[i]?) = [(b, e0)].map some := by simp
  have hR9 : (List.range wr.length).map (fun i => (wr ++ [(b, e0)])[i]?) = wr.map some := by
    apply List.ext_getElem
    · simp
    · intro i g1 g2
      simp at g1
      simp only [List.getElem_map, List.getElem_range]
      rw [List.getElem?_append_left g1, List.getElem?_eq_getElem g1]
  have hPc : va_P D cl [(b, e0)] H := h1.sub [wr.length] (by simp)
  have hFc := va_free (wc := [(b, e0)]) hD h2 hA [wr.length] hC
  refine va_callv (va_runIN (As := As) (rest := rest) ⟨hx, hb, hml, hown, hts⟩ (hM H.size) ⟨va_cnB n hts (bigIn hco) rfl hz.1 hz.2 (hNs _ hl) (hts _ hini) hde hR, hni, hts _ hi⟩ ⟨fun a9 U g9 mk q9 => ⟨q9.1, q9.2.1, q9.2.2.1, va_K.moved (u := U) (U := U.calling g9 mk a9) (Vm.Alike.refl U.vm) q9.2.2.2.1, xN.same (u := U) (U := U.calling g9 mk a9) rfl q9.2.2.2.2.1, xO.moved (u := U) (U := U.calling g9 mk a9) (Vm.Alike.refl U.vm) q9.2.2.2.2.2⟩, fun U hU hW => ⟨rfl, by rw [hU], by rw [hU]; exact hPc, va_K.moved hW.alike hK, xN.warm hW hNs, xO.moved hW.alike hOs⟩⟩ rfl hn h3.1 rfl (lv_room hrm) hd hcn) h2 (fun q9 _ h9 => hFc q9 h9) hFc (fun u t H1 locs1 ht hvm hpo hB hz9 hk hS => ?_)
  obtain ⟨hP1, hD1⟩ := hB
  rw [ht] at hP1
  obtain ⟨gP, gD⟩ := va_join (wr := wr) (w1 := w1 u) h1 hD [wr.length] (List.range wr.length) hC hR9 (nd_of _ List.nodup_range) (fun i hi9 h9 => by simp at hi9 h9; omega) hk hFc hP1 hD1
  exact kk u hpo H1 locs1 ls gP gD hS h3
theorem zput1 {H H1 : Heap} {k q : Nat} {e0 e : va_E} (hP : va_P D cl w H) (hD : va_D A w) (hk : w[k]? = some (q, e0)) (hn : va_at D cl (q, e) H1) (hs : ∀ x : Nat, x < H.size → x ≠ q → H1[x]? = H[x]?) : va_P D cl (w.set k (q, e)) H1 := by
  intro n x hx
  by_cases hnk : k = n
  · subst hnk
    rw [List.getElem?_set_self (List.getElem?_eq_some_iff.mp hk).1] at hx
    rw [← Option.some.inj hx]
    exact hn
  · rw [List.getElem?_set_ne hnk] at hx
    exact (hP n x hx).kept (hs x.1 (hP n x hx).lt (fun e => hnk (hD.1 n k x (q, e0) hx hk e).symm))
theorem Z_callSi (Γ : ZC Y l R s m args cc nL own nm ret QQ D cl tys A) {y : MethodName} {bytes : ByteArray} {maxL n index : Nat} {rt : Option FieldType} {rm : Room} {As rest : List Value} {a : Nat → Nat} {E : Nat → va_E} {r : Int32} (hd : decode cc pc = .ok (.invokestatic index, 3)) (hM : Met l y (Cond.code y bytes maxL rt :: wsBig) rm (xP D cl tys 0 a E As) (xQi D cl 0 a r E) 0 0 (xA 0 a)) (hl : Cond.methodLink own index y ∈ wsBig) (hs : Cond.static y ∈ wsBig) (hini : Cond.initialized y.cls ∈ wsBig) (hco : Cond.code y bytes maxL rt ∈ wsBig) (hde : y.cls ≠ "java/lang/invoke/MethodHandle" ∧ y.cls ≠ "java/lang/invoke/VarHandle" ∧ (parseMethodDescriptor y.desc).map (fun d => d.parameters.length) = some n) (hR : rm.frames + 1 ≤ R.frames ∧ 8 + (maxL + 11) + rm.locals ≤ R.locals) (hz : rm.cells = 0 ∧ rm.slots = 0) (hn : As.length = n) (hst : As.reverse ++ rest = st) (hrm : (rest.map fun v => v.category).sum ≤ 8) (hcn : cn ≤ R.cells ∧ sn ≤ R.slots) (hp : pc + 3 = pc') (kk : Z Y s m D cl A nL w cn sn pc' L (.int r :: rest)) : Z Y s m D cl A nL w cn sn pc L st := by
  subst hst
  obtain ⟨⟨p, e, below, meth, c, rfl, ⟨hx, hb, hml, hown, hts⟩, hr, hlk, hnm⟩, hK, hNs, hOs, hA⟩ := Γ
  subst hp
  intro H locs ls h1 hD h2 h3
  have hPc : va_P D cl (xw 0 a E) H := fun k q hk => by simp [xw] at hk
  have hno : ∀ q, ¬ xA 0 a q := fun q hq => by obtain ⟨i, hi, _⟩ := hq; exact Nat.not_lt_zero i hi
  refine va_calli (va_runS (As := As) (rest := rest) ⟨hx, hb, hml, hown, hts⟩ hM ⟨callB_of n hts (bigIn hco) rfl hz.1 hz.2 (hts _ hini) (hts _ hl) hde hR, hts _ hs⟩ ⟨fun a9 U g9 mk q9 => ⟨q9.1, q9.2.1, va_K.moved (u := U) (U := U.calling g9 mk a9) (Vm.Alike.refl U.vm) q9.2.2.1, xN.same (u := U) (U := U.calling g9 mk a9) rfl q9.2.2.2⟩, fun U hU hW => ⟨rfl, by rw [hU]; exact hPc, va_K.moved hW.alike hK, xN.warm hW hNs⟩⟩ rfl hn h3.1 rfl (lv_room hrm) hd hcn) h2 (fun q9 _ h9 => absurd h9 (hno q9)) (fun q9 h9 => absurd h9 (hno q9)) (fun r9 u t H1 locs1 ht hvm hpo hB hz9 hk hS => ?_)
  cases hpo
  exact kk H1 locs1 ls (h1.kept (fun k q hq => hk q.1 (h1 k q hq).lt (hno q.1))) hD hS h3
theorem Z_callS1 (Γ : ZC Y l R s m args cc nL own nm ret QQ D cl tys A) {y : MethodName} {bytes : ByteArray} {maxL n index q : Nat} {rt : Option FieldType} {rm : Room} {As rest : List Value} {E E' : Nat → va_E} (hd : decode cc pc = .ok (.invokestatic index, 3)) (hM : Met l y (Cond.code y bytes maxL rt :: wsBig) rm (xP D cl tys 1 (fun _ => q) E As) (xQv D cl 1 (fun _ => q) E') 0 0 (xA 1 (fun _ => q))) (k0 : Nat) (hk0 : w[k0]? = some (q, E 0)) (hl : Cond.methodLink own index y ∈ wsBig) (hs : Cond.static y ∈ wsBig) (hini : Cond.initialized y.cls ∈ wsBig) (hco : Cond.code y bytes maxL rt ∈ wsBig) (hde : y.cls ≠ "java/lang/invoke/MethodHandle" ∧ y.cls ≠ "java/lang/invoke/VarHandle" ∧ (parseMethodDescriptor y.desc).map (fun d => d.parameters.length) = some n) (hR : rm.frames + 1 ≤ R.frames ∧ 8 + (maxL + 11) + rm.locals ≤ R.locals) (hz : rm.cells = 0 ∧ rm.slots = 0) (hn : As.length = n) (hst : As.reverse ++ rest = st) (hrm : (rest.map fun v => v.category).sum ≤ 8) (hcn : cn ≤ R.cells ∧ sn ≤ R.slots) (hp : pc + 3 = pc') (kk : Z Y s m D cl A nL (w.set k0 (q, E' 0)) cn sn pc' L rest) : Z Y s m D cl A nL w cn sn pc L st := by
  subst hst
  obtain ⟨⟨p, e, below, meth, c, rfl, ⟨hx, hb, hml, hown, hts⟩, hr, hlk, hnm⟩, hK, hNs, hOs, hA⟩ := Γ
  subst hp
  intro H locs ls h1 hD h2 h3
  have hPc : va_P D cl (xw 1 (fun _ => q) E) H := fun k x hk => by
    obtain ⟨g1, rfl⟩ := xw_of hk
    obtain rfl : k = 0 := by omega
    exact h1 k0 _ hk0
  have hin1 : ∀ x, xA 1 (fun _ => q) x → x = q := fun x hx9 => by obtain ⟨i, hi, e9⟩ := hx9; exact e9.symm
  have hAq : ∀ x, xA 1 (fun _ => q) x → A x := fun x hx9 => by rw [hin1 x hx9]; exact hD.2 k0 _ hk0
  refine va_callv (va_runS (As := As) (rest := rest) ⟨hx, hb, hml, hown, hts⟩ hM ⟨callB_of n hts (bigIn hco) rfl hz.1 hz.2 (hts _ hini) (hts _ hl) hde hR, hts _ hs⟩ ⟨fun a9 U g9 mk q9 => ⟨q9.1, q9.2.1, va_K.moved (u := U) (U := U.calling g9 mk a9) (Vm.Alike.refl U.vm) q9.2.2.1, xN.same (u := U) (U := U.calling g9 mk a9) rfl q9.2.2.2⟩, fun U hU hW => ⟨rfl, by rw [hU]; exact hPc, va_K.moved hW.alike hK, xN.warm hW hNs⟩⟩ rfl hn h3.1 rfl (lv_room hrm) hd hcn) h2 (fun q9 _ h9 => hAq q9 h9) (fun q9 h9 => hAq q9 h9) (fun u t H1 locs1 ht hvm hpo hB hz9 hk hS => ?_)
  replace hB : va_P D cl (xw 1 (fun _ => q) E') t.heap := hB
  rw [ht] at hB
  exact kk H1 locs1 ls (zput1 h1 hD hk0 (hB 0 _ (xw_at (by decide))) (fun x hx9 hne => hk x hx9 (fun h => hne (hin1 x h)))) (hD.set hk0) hS h3
theorem Z_callXi (Γ : ZC Y l R s m args cc nL own nm ret QQ D cl tys A) {y : MethodName} {bytes : ByteArray} {maxL n index : Nat} {rt : Option FieldType} {rm : Room} {As rest : List Value} {N N1 off b0 ci : Nat} {a a1 : Nat → Nat} {E E' E1 E1' : Nat → va_E} {q0 : vw_C} {fs : List Value} {C : String} {r : Int32} (hd : decode cc pc = .ok (.invokevirtual index, 3)) (hM : Met l y (Cond.code y bytes maxL rt :: wsBig) rm (xP D cl tys N1 a1 E1 (.ref (a1 b0) :: As)) (xQi D cl N1 a1 r E1') 0 0 (xA N1 a1)) (hN : off + N1 ≤ N) (ha : ∀ k, k < N1 → a (off + k) = a1 k) (hE : ∀ k, k < N1 → E (off + k) = E1 k) (hE1 : ∀ k, k < N1 → E' (off + k) = E1' k) (hE2 : ∀ k, k < N → (k < off ∨ off + N1 ≤ k) → E' k = E k) (hb0 : b0 < N1) (hkb : E1 b0 = .inr (ci, fs)) (hcb : cl[ci]? = some q0) (hCb : q0.1 = C) (hl : Cond.methodLink own index y ∈ wsBig) (hi : Cond.instanceMethod y ∈ wsBig) (hs : Cond.selects C y y ∈ wsBig) (hini : Cond.initialized y.cls ∈ wsBig) (hco : Cond.code y bytes maxL rt ∈ wsBig) (hde : y.cls ≠ "java/lang/invoke/MethodHandle" ∧ y.cls ≠ "java/lang/invoke/VarHandle" ∧ (parseMethodDescriptor y.desc).map (fun d => d.parameters.length) = some n) (hR : rm.frames + 1 ≤ R.frames ∧ 8 + (maxL + 11) + rm.locals ≤ R.locals) (hz : rm.cells = 0 ∧ rm.slots = 0) (hn : As.length = n) (hst : As.reverse ++ .ref (a1 b0) :: rest = st) (hrm : (rest.map fun v => v.category).sum ≤ 8) (hcn : cn ≤ R.cells ∧ sn ≤ R.slots) (hp : pc + 3 = pc') (kk : Z Y s m D cl A nL (xw N a E') cn sn pc' L (.int r :: rest)) : Z Y s m D cl A nL (xw N a E) cn sn pc L st := by
  subst hst
  obtain ⟨⟨p, e, below, meth, c, rfl, ⟨hx, hb, hml, hown, hts⟩, hr, hlk, hnm⟩, hK, hNs, hOs, hA⟩ := Γ
  subst hp
  intro H locs ls h1 hD h2 h3
  have hPc : va_P D cl (xw N1 a1 E1) H := fun k x hk => by
    obtain ⟨g1, rfl⟩ := xw_of hk
    have := h1 (off + k) _ (xw_at (by omega))
    rw [ha k g1, hE k g1] at this
    exact this
  have hAq : ∀ x, xA N1 a1 x → A x := fun x hx9 => by
    obtain ⟨i, hi9, e9⟩ := hx9
    rw [← e9, ← ha i hi9]
    exact hD.2 (off + i) _ (xw_at (by omega))
  refine va_calli (va_runV (As := As) (rest := rest) ⟨hx, hb, hml, hown, hts⟩ hM ⟨callB_of n hts (bigIn hco) rfl hz.1 hz.2 (hts _ hini) (hts _ hl) hde hR, hts _ hi, hts _ hs⟩ ⟨fun a9 U g9 mk q9 => ⟨q9.1, q9.2.1, va_K.moved (u := U) (U := U.calling g9 mk a9) (Vm.Alike.refl U.vm) q9.2.2.1, xN.same (u := U) (U := U.calling g9 mk a9) rfl q9.2.2.2⟩, by rw [← hCb]; exact va_recv hK hPc hcb ((xw_at hb0).trans (congrArg (fun e9 => some (a1 b0, e9)) hkb)), fun U hU hW => ⟨rfl, by rw [hU]; exact hPc, va_K.moved hW.alike hK, xN.warm hW hNs⟩⟩ rfl hn h3.1 rfl (lv_room hrm) hd hcn) h2 (fun q9 _ h9 => hAq q9 h9) (fun q9 h9 => hAq q9 h9) (fun r9 u t H1 locs1 ht hvm hpo hB hz9 hk hS => ?_)
  cases hpo
  replace hB : va_P D cl (xw N1 a1 E1') t.heap := hB
  rw [ht] at hB
  refine kk H1 locs1 ls (fun k x hx9 => ?_) ⟨fun i j p9 q9 hp9 hq9 e9 => ?_, fun k x hx9 => ?_⟩ hS h3
  · obtain ⟨g1, rfl⟩ := xw_of hx9
    by_cases hko : off ≤ k ∧ k < off + N1
    · have := hB (k - off) _ (xw_at (by omega))
      rw [← ha (k - off) (by omega), ← hE1 (k - off) (by omega), show off + (k - off) = k by omega] at this
      exact this
    · rw [hE2 k g1 (by omega)]
      have hh := h1 k _ (xw_at g1)
      refine hh.kept (hk _ hh.lt (fun hx8 => ?_))
      obtain ⟨i, hi9, e9⟩ := hx8
      rw [← ha i hi9] at e9
      have := hD.1 (off + i) k _ _ (xw_at (by omega)) (xw_at g1) e9
      omega
  · obtain ⟨g1, rfl⟩ := xw_of hp9
    obtain ⟨g2, rfl⟩ := xw_of hq9
    exact hD.1 i j _ _ (xw_at g1) (xw_at g2) e9
  · obtain ⟨g1, rfl⟩ := xw_of hx9
    show A (a k)
    exact hD.2 k (a k, E k) (xw_at g1)
theorem Z_callXv (Γ : ZC Y l R s m args cc nL own nm ret QQ D cl tys A) {y : MethodName} {bytes : ByteArray} {maxL n index : Nat} {rt : Option FieldType} {rm : Room} {As rest : List Value} {N N1 off b0 ci : Nat} {a a1 : Nat → Nat} {E E' E1 E1' : Nat → va_E} {q0 : vw_C} {fs : List Value} {C : String}  (hd : decode cc pc = .ok (.invokevirtual index, 3)) (hM : Met l y (Cond.code y bytes maxL rt :: wsBig) rm (xP D cl tys N1 a1 E1 (.ref (a1 b0) :: As)) (xQv D cl N1 a1 E1') 0 0 (xA N1 a1)) (hN : off + N1 ≤ N) (ha : ∀ k, k < N1 → a (off + k) = a1 k) (hE : ∀ k, k < N1 → E (off + k) = E1 k) (hE1 : ∀ k, k < N1 → E' (off + k) = E1' k) (hE2 : ∀ k, k < N → (k < off ∨ off + N1 ≤ k) → E' k = E k) (hb0 : b0 < N1) (hkb : E1 b0 = .inr (ci, fs)) (hcb : cl[ci]? = some q0) (hCb : q0.1 = C) (hl : Cond.methodLink own index y ∈ wsBig) (hi : Cond.instanceMethod y ∈ wsBig) (hs : Cond.selects C y y ∈ wsBig) (hini : Cond.initialized y.cls ∈ wsBig) (hco : Cond.code y bytes maxL rt ∈ wsBig) (hde : y.cls ≠ "java/lang/invoke/MethodHandle" ∧ y.cls ≠ "java/lang/invoke/VarHandle" ∧ (parseMethodDescriptor y.desc).map (fun d => d.parameters.length) = some n) (hR : rm.frames + 1 ≤ R.frames ∧ 8 + (maxL + 11) + rm.locals ≤ R.locals) (hz : rm.cells = 0 ∧ rm.slots = 0) (hn : As.length = n) (hst : As.reverse ++ .ref (a1 b0) :: rest = st) (hrm : (rest.map fun v => v.category).sum ≤ 8) (hcn : cn ≤ R.cells ∧ sn ≤ R.slots) (hp : pc + 3 = pc') (kk : Z Y s m D cl A nL (xw N a E') cn sn pc' L rest) : Z Y s m D cl A nL (xw N a E) cn sn pc L st := by
  subst hst
  obtain ⟨⟨p, e, below, meth, c, rfl, ⟨hx, hb, hml, hown, hts⟩, hr, hlk, hnm⟩, hK, hNs, hOs, hA⟩ := Γ
  subst hp
  intro H locs ls h1 hD h2 h3
  have hPc : va_P D cl (xw N1 a1 E1) H := fun k x hk => by
    obtain ⟨g1, rfl⟩ := xw_of hk
    have := h1 (off + k) _ (xw_at (by omega))
    rw [ha k g1, hE k g1] at this
    exact this
  have hAq : ∀ x, xA N1 a1 x → A x := fun x hx9 => by
    obtain ⟨i, hi9, e9⟩ := hx9
    rw [← e9, ← ha i hi9]
    exact hD.2 (off + i) _ (xw_at (by omega))
  refine va_callv (va_runV (As := As) (rest := rest) ⟨hx, hb, hml, hown, hts⟩ hM ⟨callB_of n hts (bigIn hco) rfl hz.1 hz.2 (hts _ hini) (hts _ hl) hde hR, hts _ hi, hts _ hs⟩ ⟨fun a9 U g9 mk q9 => ⟨q9.1, q9.2.1, va_K.moved (u := U) (U := U.calling g9 mk a9) (Vm.Alike.refl U.vm) q9.2.2.1, xN.same (u := U) (U := U.calling g9 mk a9) rfl q9.2.2.2⟩, by rw [← hCb]; exact va_recv hK hPc hcb ((xw_at hb0).trans (congrArg (fun e9 => some (a1 b0, e9)) hkb)), fun U hU hW => ⟨rfl, by rw [hU]; exact hPc, va_K.moved hW.alike hK, xN.warm hW hNs⟩⟩ rfl hn h3.1 rfl (lv_room hrm) hd hcn) h2 (fun q9 _ h9 => hAq q9 h9) (fun q9 h9 => hAq q9 h9) (fun u t H1 locs1 ht hvm hpo hB hz9 hk hS => ?_)
  replace hB : va_P D cl (xw N1 a1 E1') t.heap := hB
  rw [ht] at hB
  refine kk H1 locs1 ls (fun k x hx9 => ?_) ⟨fun i j p9 q9 hp9 hq9 e9 => ?_, fun k x hx9 => ?_⟩ hS h3
  · obtain ⟨g1, rfl⟩ := xw_of hx9
    by_cases hko : off ≤ k ∧ k < off + N1
    · have := hB (k - off) _ (xw_at (by omega))
      rw [← ha (k - off) (by omega), ← hE1 (k - off) (by omega), show off + (k - off) = k by omega] at this
      exact this
    · rw [hE2 k g1 (by omega)]
      have hh := h1 k _ (xw_at g1)
      refine hh.kept (hk _ hh.lt (fun hx8 => ?_))
      obtain ⟨i, hi9, e9⟩ := hx8
      rw [← ha i hi9] at e9
      have := hD.1 (off + i) k _ _ (xw_at (by omega)) (xw_at g1) e9
      omega
  · obtain ⟨g1, rfl⟩ := xw_of hp9
    obtain ⟨g2, rfl⟩ := xw_of hq9
    exact hD.1 i j _ _ (xw_at g1) (xw_at g2) e9
  · obtain ⟨g1, rfl⟩ := xw_of hx9
    show A (a k)
    exact hD.2 k (a k, E k) (xw_at g1)
theorem Z_sld (Γ : ZC Y l R s m args cc nL own nm ret QQ D cl tys A) {b L0 : Nat} {xs : Nat → Int32} {i v : Int32} (hd : decode cc pc = .ok (.iaload, 1)) (hX : va_X b L0 xs s s.heap) (hb0 : b < s.heap.size) (hbA : ¬ A b) (hi : vp_in i L0) (hv : xs i.toNatClampNeg = v) (hp : pc + 1 = pc') (kk : Z Y s m D cl A nL w cn sn pc' L (.int v :: st)) : Z Y s m D cl A nL w cn sn pc L (.int i :: .ref b :: st) := by
  obtain ⟨⟨p, e, below, meth, c, rfl, ⟨hx, hb, hml, hown, hts⟩, hr, hlk, hnm⟩, hK, hNs, hOs, hA⟩ := Γ
  subst hv
  subst hp
  intro H locs ls h1 hD h2 h3
  exact va_sld hx hb hX hb0 hbA h2 hi hd (kk H locs ls h1 hD h2 h3)
theorem Z_slen (Γ : ZC Y l R s m args cc nL own nm ret QQ D cl tys A) {b L0 : Nat} {xs : Nat → Int32} (hd : decode cc pc = .ok (.arraylength, 1)) (hX : va_X b L0 xs s s.heap) (hb0 : b < s.heap.size) (hbA : ¬ A b) (hp : pc + 1 = pc') (kk : Z Y s m D cl A nL w cn sn pc' L (.int (Int32.ofNat L0) :: st)) : Z Y s m D cl A nL w cn sn pc L (.ref b :: st) := by
  obtain ⟨⟨p, e, below, meth, c, rfl, ⟨hx, hb, hml, hown, hts⟩, hr, hlk, hnm⟩, hK, hNs, hOs, hA⟩ := Γ
  subst hp
  intro H locs ls h1 hD h2 h3
  exact va_slen hx hb hX hb0 hbA h2 hd (kk H locs ls h1 hD h2 h3)
/-- a method that reads the script alone -/
abbrev zsP (D : va_G) (cl : List vw_C) (tys : List (ClassId × FieldType)) (b L0 : Nat) (xs : Nat → Int32) (sz : Nat) (av : List Value) : Array Value → State → Prop := va_Pc av (fun U => U.heap.size = sz ∧ va_X b L0 xs U U.heap ∧ b < sz ∧ va_K D cl tys U ∧ xN U ∧ xO U)
abbrev zsQ (r : Int32) (sz : Nat) : Array Value → State → Outcome → State → Prop := va_Qi (S := Unit) (fun x _ => x = r) (fun _ _ => True) (fun q => sz ≤ q)
theorem Z_met_s {y : MethodName} {rm : Room} {b L0 sz : Nat} {xs : Nat → Int32} {av : List Value} {r : Int32} (hy : plainName y.cls = true) (ho : y.cls = own) (hnm : y.name = nm) (hlen : (lg_sl av).length ≤ nL)
    (body : ∀ (Y : Nat → Nat → Heap → List Loc → JFrame → Prop) (s : State) (m : MethodId) (args : Array Value), ZC Y l rm s m args cc nL own nm ret (fun below => MQ below (zsQ r sz) args s 0 0 (fun q => sz ≤ q)) D cl tys (fun q => sz ≤ q) → va_X b L0 xs s s.heap → b < s.heap.size → ¬ sz ≤ b → Z Y s m D cl (fun q => sz ≤ q) nL [] 0 0 0 (lv_args 0 av) []) : Met l y (Cond.code y cc nL ret :: wsBig) rm (zsP D cl tys b L0 xs sz av) (zsQ r sz) 0 0 (fun q => sz ≤ q) := by
  subst ho
  subst hnm
  refine Met.ofW (cc := cc) (maxL := nL) (ret := ret) hy rfl ?_
  intro p e s m args below meth c s₁ B hml hv
  obtain ⟨rfl, hsz, hX, hb9, hK, hNs, hOs⟩ := hv
  subst hsz
  rw [lg_entry_eq]
  have hl := lv_entry av hlen
  exact body (fun cn sn H locs g => W p l e rm s m av.toArray below meth c H locs cn sn (MQ below (zsQ r s.heap.size) av.toArray s 0 0 (fun q => s.heap.size ≤ q)) g) s m av.toArray ⟨⟨p, e, below, meth, c, rfl, ⟨B.exec, B.bytes, hml, findClass_of_methodNamed B.named, fun w hw => atoms_spec (ws := Cond.code y cc nL ret :: wsBig) B.pre w (List.mem_cons_of_mem _ hw)⟩, B.returns, B.notSynchronized, (name_of_methodNamed B.named B.method).1⟩, hK, hNs, hOs, fun q hq => hq⟩ hX hb9 (Nat.not_le.mpr hb9) s.heap [] _ (fun k q hk => by simp at hk) ⟨fun i j p q hp => by simp at hp, fun k q hk => by simp at hk⟩ va_S.rf hl
theorem Z_sret {sz : Nat} {v r : Int32} (Γ : ZC Y l R s m args cc nL own nm (some .int) (fun below => MQ below (zsQ r sz) args s 0 0 (fun q => sz ≤ q)) D cl tys A) (hA9 : A = fun q => sz ≤ q) (hd : decode cc pc = .ok (.ireturn, 1)) (hv : v = r) : Z Y s m D cl A nL w 0 0 pc L [.int v] := by
  obtain ⟨⟨p, e, below, meth, c, rfl, ⟨hx, hb, hml, hown, hts⟩, hr, hlk, hnm⟩, hK, hNs, hOs, hA⟩ := Γ
  subst hA9
  intro H locs ls h1 hD h2 h3
  exact W.iret hx hb hr (fun t ht hW => ⟨⟨v, (), rfl, hv, trivial⟩, h2.F ht⟩) h2.2.2 hd hlk
theorem Z_callSs (Γ : ZC Y l R s m args cc nL own nm ret QQ D cl tys A) {y : MethodName} {bytes : ByteArray} {maxL n index b L0 : Nat} {xs : Nat → Int32} {rt : Option FieldType} {rm : Room} {As rest : List Value} {r : Int32} (hd : decode cc pc = .ok (.invokestatic index, 3)) (hM : ∀ sz : Nat, Met l y (Cond.code y bytes maxL rt :: wsBig) rm (zsP D cl tys b L0 xs sz As) (zsQ r sz) 0 0 (fun q => sz ≤ q)) (hX : va_X b L0 xs s s.heap) (hb0 : b < s.heap.size) (hbA : ¬ A b) (hl : Cond.methodLink own index y ∈ wsBig) (hs : Cond.static y ∈ wsBig) (hini : Cond.initialized y.cls ∈ wsBig) (hco : Cond.code y bytes maxL rt ∈ wsBig) (hde : y.cls ≠ "java/lang/invoke/MethodHandle" ∧ y.cls ≠ "java/lang/invoke/VarHandle" ∧ (parseMethodDescriptor y.desc).map (fun d => d.parameters.length) = some n) (hR : rm.frames + 1 ≤ R.frames ∧ 8 + (maxL + 11) + rm.locals ≤ R.locals) (hz : rm.cells = 0 ∧ rm.slots = 0) (hn : As.length = n) (hst : As.reverse ++ rest = st) (hrm : (rest.map fun v => v.category).sum ≤ 8) (hcn : cn ≤ R.cells ∧ sn ≤ R.slots) (hp : pc + 3 = pc') (kk : Z Y s m D cl A nL w cn sn pc' L (.int r :: rest)) : Z Y s m D cl A nL w cn sn pc L st := by
  subst hst
  obtain ⟨⟨p, e, below, meth, c, rfl, ⟨hx, hb, hml, hown, hts⟩, hr, hlk, hnm⟩, hK, hNs, hOs, hA⟩ := Γ
  subst hp
  intro H locs ls h1 hD h2 h3
  have hA9 : ∀ q : Nat, H.size ≤ q → A q := fun q hq => hA q (Nat.le_trans h2.1 hq)
  refine va_calli (va_runS (As := As) (rest := rest) ⟨hx, hb, hml, hown, hts⟩ (hM H.size) ⟨callB_of n hts (bigIn hco) rfl hz.1 hz.2 (hts _ hini) (hts _ hl) hde hR, hts _ hs⟩ ⟨fun a9 U g9 mk q9 => ⟨q9.1, q9.2.1, va_X.moved (u := U) (U := U.calling g9 mk a9) (Vm.Alike.refl U.vm) q9.2.2.1, q9.2.2.2.1, va_K.moved (u := U) (U := U.calling g9 mk a9) (Vm.Alike.refl U.vm) q9.2.2.2.2.1, xN.same (u := U) (U := U.calling g9 mk a9) rfl q9.2.2.2.2.2.1, xO.moved (u := U) (U := U.calling g9 mk a9) (Vm.Alike.refl U.vm) q9.2.2.2.2.2.2⟩, fun U hU hW => ⟨rfl, by rw [hU], (va_X.moved hW.alike hX).kept (by rw [hU]; exact h2.2.1 b hb0 hbA), Nat.lt_of_lt_of_le hb0 h2.1, va_K.moved hW.alike hK, xN.warm hW hNs, xO.moved hW.alike hOs⟩⟩ rfl hn h3.1 rfl (lv_room hrm) hd hcn) h2 (fun q9 g9 h9 => absurd h9 (Nat.not_le.mpr g9)) hA9 (fun r9 u t H1 locs1 ht hvm hpo hB hz9 hk hS => ?_)
  cases hpo
  exact kk H1 locs1 ls (h1.kept (fun k q hq => hk q.1 (h1 k q hq).lt (Nat.not_le.mpr (h1 k q hq).lt))) hD hS h3
end ZL
