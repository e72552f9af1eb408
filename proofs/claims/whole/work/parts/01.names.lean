/-! Words by their places, field tables, decode rows: printed by wip/gen/names.py out of the Statement. -/
def wsBig : List Cond := lw_tbl.filter goodWord
def isNest : Cond → Bool
  | .fieldLinkNest .. => true
  | .methodLinkNest .. => true
  | _ => false
def xnl : List Cond := lw_tbl.filter isNest
def xN (U : State) : Prop := ∀ w ∈ xnl, va_Nw w U
theorem xN.same {u U : State} (h : u.vm = U.vm) (hN : xN u) : xN U := fun w hw => by
  have h1 := (List.mem_filter.mp hw).2
  have h2 := hN w hw
  cases w <;> first | exact va_Nw.same rfl h h2 | (simp [isNest] at h1)
theorem xN.warm {s U : State} (hW : s.WarmedH U.vm) (hN : xN s) : xN U := fun w hw => by
  have h1 := (List.mem_filter.mp hw).2
  have h2 := hN w hw
  cases w <;> first | exact va_Nw.warmF hW h2 | exact va_Nw.warmM hW h2 | (simp [isNest] at h1)
theorem wb1 {w : Cond} (h : w ∈ tables_1_1) (g : goodWord w = true) : w ∈ wsBig := List.mem_filter.mpr ⟨List.mem_append_right _ (List.mem_append_left _ h), g⟩
theorem wn1 {w : Cond} (h : w ∈ tables_1_1) (g : isNest w = true) : w ∈ xnl := List.mem_filter.mpr ⟨List.mem_append_right _ (List.mem_append_left _ h), g⟩
theorem wb2 {w : Cond} (h : w ∈ tables_1_2) (g : goodWord w = true) : w ∈ wsBig := List.mem_filter.mpr ⟨List.mem_append_right _ (List.mem_append_right _ (List.mem_append_left _ h)), g⟩
theorem wn2 {w : Cond} (h : w ∈ tables_1_2) (g : isNest w = true) : w ∈ xnl := List.mem_filter.mpr ⟨List.mem_append_right _ (List.mem_append_right _ (List.mem_append_left _ h)), g⟩
theorem wb3 {w : Cond} (h : w ∈ tables_1_3) (g : goodWord w = true) : w ∈ wsBig := List.mem_filter.mpr ⟨List.mem_append_right _ (List.mem_append_right _ (List.mem_append_right _ (List.mem_append_left _ h))), g⟩
theorem wn3 {w : Cond} (h : w ∈ tables_1_3) (g : isNest w = true) : w ∈ xnl := List.mem_filter.mpr ⟨List.mem_append_right _ (List.mem_append_right _ (List.mem_append_right _ (List.mem_append_left _ h))), g⟩
theorem wb4 {w : Cond} (h : w ∈ tables_1_4) (g : goodWord w = true) : w ∈ wsBig := List.mem_filter.mpr ⟨List.mem_append_right _ (List.mem_append_right _ (List.mem_append_right _ (List.mem_append_right _ h))), g⟩
theorem wn4 {w : Cond} (h : w ∈ tables_1_4) (g : isNest w = true) : w ∈ xnl := List.mem_filter.mpr ⟨List.mem_append_right _ (List.mem_append_right _ (List.mem_append_right _ (List.mem_append_right _ h))), g⟩
theorem wq1 {q : MethodName × Nat} (h : q ∈ lw_privs_1) : Cond.selects q.1.cls q.1 q.1 ∈ wsBig := List.mem_filter.mpr ⟨List.mem_append_left _ (List.mem_map.mpr ⟨q, List.mem_append_left _ h, rfl⟩), rfl⟩
theorem wq2 {q : MethodName × Nat} (h : q ∈ lw_privs_2) : Cond.selects q.1.cls q.1 q.1 ∈ wsBig := List.mem_filter.mpr ⟨List.mem_append_left _ (List.mem_map.mpr ⟨q, List.mem_append_right _ (List.mem_append_left _ h), rfl⟩), rfl⟩
theorem wq3 {q : MethodName × Nat} (h : q ∈ lw_privs_3) : Cond.selects q.1.cls q.1 q.1 ∈ wsBig := List.mem_filter.mpr ⟨List.mem_append_left _ (List.mem_map.mpr ⟨q, List.mem_append_right _ (List.mem_append_right _ (List.mem_append_left _ h)), rfl⟩), rfl⟩
theorem wq4 {q : MethodName × Nat} (h : q ∈ lw_privs_4) : Cond.selects q.1.cls q.1 q.1 ∈ wsBig := List.mem_filter.mpr ⟨List.mem_append_left _ (List.mem_map.mpr ⟨q, List.mem_append_right _ (List.mem_append_right _ (List.mem_append_right _ h)), rfl⟩), rfl⟩
theorem w0 : (Cond.initialized "InSyncLogLaw") ∈ wsBig := wb1 (List.mem_of_getElem? (i := 0) rfl) rfl
theorem w1 : (Cond.initialized "InSyncLog") ∈ wsBig := wb1 (List.mem_of_getElem? (i := 1) rfl) rfl
theorem w2 : (Cond.initialized "java/lang/Math") ∈ wsBig := wb1 (List.mem_of_getElem? (i := 2) rfl) rfl
theorem w3 : (Cond.initialized "InSyncLog$Controller") ∈ wsBig := wb1 (List.mem_of_getElem? (i := 3) rfl) rfl
theorem w4 : (Cond.initialized "InSyncLog$Channel") ∈ wsBig := wb1 (List.mem_of_getElem? (i := 4) rfl) rfl
theorem w5 : (Cond.initialized "InSyncLog$Message") ∈ wsBig := wb1 (List.mem_of_getElem? (i := 5) rfl) rfl
theorem w6 : (Cond.initialized "InSyncLog$Broker") ∈ wsBig := wb1 (List.mem_of_getElem? (i := 6) rfl) rfl
theorem w7 : (Cond.initialized "InSyncLog$Log") ∈ wsBig := wb1 (List.mem_of_getElem? (i := 7) rfl) rfl
theorem w8 : (Cond.initialized "java/util/Arrays") ∈ wsBig := wb1 (List.mem_of_getElem? (i := 8) rfl) rfl
theorem w9 : (Cond.initialized "InSyncLogModel") ∈ wsBig := wb1 (List.mem_of_getElem? (i := 9) rfl) rfl
theorem w10 : (Cond.initialized "java/lang/Integer") ∈ wsBig := wb1 (List.mem_of_getElem? (i := 10) rfl) rfl
theorem w11 : (Cond.classLink "InSyncLogLaw" (7 : Nat) "InSyncLog") ∈ wsBig := wb1 (List.mem_of_getElem? (i := 11) rfl) rfl
theorem w12 : (Cond.instantiable "InSyncLog" (7 : Nat)) ∈ wsBig := wb1 (List.mem_of_getElem? (i := 12) rfl) rfl
theorem w13 : (Cond.methodLink "InSyncLogLaw" (15 : Nat) ({ cls := "InSyncLog", name := "<init>", desc := "(III)V" } : MethodName)) ∈ wsBig := wb1 (List.mem_of_getElem? (i := 13) rfl) rfl
theorem w14 : (Cond.instanceMethod ({ cls := "InSyncLog", name := "<init>", desc := "(III)V" } : MethodName)) ∈ wsBig := wb1 (List.mem_of_getElem? (i := 14) rfl) rfl
theorem w15 : (Cond.code ({ cls := "InSyncLog", name := "<init>", desc := "(III)V" } : MethodName) prog_1_method_1_code (5 : Nat) (Option.none : Option FieldType)) ∈ wsBig := wb1 (List.mem_of_getElem? (i := 15) rfl) rfl
theorem w16 : (Cond.methodLink "InSyncLog" (1 : Nat) ({ cls := "java/lang/Object", name := "<init>", desc := "()V" } : MethodName)) ∈ wsBig := wb1 (List.mem_of_getElem? (i := 16) rfl) rfl
theorem w17 : (Cond.instanceMethod ({ cls := "java/lang/Object", name := "<init>", desc := "()V" } : MethodName)) ∈ wsBig := wb1 (List.mem_of_getElem? (i := 17) rfl) rfl
theorem w18 : (Cond.code ({ cls := "java/lang/Object", name := "<init>", desc := "()V" } : MethodName) object_method_1_code (1 : Nat) (Option.none : Option FieldType)) ∈ wsBig := wb1 (List.mem_of_getElem? (i := 18) rfl) rfl
theorem w19 : (Cond.methodLink "InSyncLog" (7 : Nat) ({ cls := "InSyncLog", name := "nearest", desc := "(III)I" } : MethodName)) ∈ wsBig := wb1 (List.mem_of_getElem? (i := 19) rfl) rfl
theorem w20 : (Cond.static ({ cls := "InSyncLog", name := "nearest", desc := "(III)I" } : MethodName)) ∈ wsBig := wb1 (List.mem_of_getElem? (i := 20) rfl) rfl
theorem w21 : (Cond.code ({ cls := "InSyncLog", name := "nearest", desc := "(III)I" } : MethodName) prog_1_method_21_code (3 : Nat) (Option.some FieldType.int)) ∈ wsBig := wb1 (List.mem_of_getElem? (i := 21) rfl) rfl
theorem w22 : (Cond.methodLink "InSyncLog" (179 : Nat) ({ cls := "java/lang/Math", name := "min", desc := "(II)I" } : MethodName)) ∈ wsBig := wb1 (List.mem_of_getElem? (i := 22) rfl) rfl
theorem w23 : (Cond.static ({ cls := "java/lang/Math", name := "min", desc := "(II)I" } : MethodName)) ∈ wsBig := wb1 (List.mem_of_getElem? (i := 23) rfl) rfl
theorem w24 : (Cond.code ({ cls := "java/lang/Math", name := "min", desc := "(II)I" } : MethodName) prog_10_method_69_code (2 : Nat) (Option.some FieldType.int)) ∈ wsBig := wb1 (List.mem_of_getElem? (i := 24) rfl) rfl
theorem w25 : (Cond.methodLink "InSyncLog" (184 : Nat) ({ cls := "java/lang/Math", name := "max", desc := "(II)I" } : MethodName)) ∈ wsBig := wb1 (List.mem_of_getElem? (i := 25) rfl) rfl
theorem w26 : (Cond.static ({ cls := "java/lang/Math", name := "max", desc := "(II)I" } : MethodName)) ∈ wsBig := wb1 (List.mem_of_getElem? (i := 26) rfl) rfl
theorem w27 : (Cond.code ({ cls := "java/lang/Math", name := "max", desc := "(II)I" } : MethodName) prog_10_method_65_code (2 : Nat) (Option.some FieldType.int)) ∈ wsBig := wb1 (List.mem_of_getElem? (i := 27) rfl) rfl
theorem w28 : (Cond.classLink "InSyncLog" (23 : Nat) "InSyncLog$Controller") ∈ wsBig := wb1 (List.mem_of_getElem? (i := 28) rfl) rfl
theorem w29 : (Cond.instantiable "InSyncLog$Controller" (3 : Nat)) ∈ wsBig := wb1 (List.mem_of_getElem? (i := 29) rfl) rfl
theorem w30 : (Cond.methodLinkNest "InSyncLog" (25 : Nat) ({ cls := "InSyncLog$Controller", name := "<init>", desc := "()V" } : MethodName) "InSyncLog") ∈ xnl := wn1 (List.mem_of_getElem? (i := 30) rfl) rfl
theorem w31 : (Cond.instanceMethod ({ cls := "InSyncLog$Controller", name := "<init>", desc := "()V" } : MethodName)) ∈ wsBig := wb1 (List.mem_of_getElem? (i := 31) rfl) rfl
theorem w32 : (Cond.code ({ cls := "InSyncLog$Controller", name := "<init>", desc := "()V" } : MethodName) prog_4_method_1_code (1 : Nat) (Option.none : Option FieldType)) ∈ wsBig := wb1 (List.mem_of_getElem? (i := 32) rfl) rfl
theorem w33 : (Cond.methodLink "InSyncLog$Controller" (3 : Nat) ({ cls := "java/lang/Object", name := "<init>", desc := "()V" } : MethodName)) ∈ wsBig := wb1 (List.mem_of_getElem? (i := 33) rfl) rfl
theorem w34 : (Cond.fieldLink "InSyncLog$Controller" (9 : Nat) "InSyncLog$Controller" "epoch" "I") ∈ wsBig := wb1 (List.mem_of_getElem? (i := 34) rfl) rfl
theorem w35 : (Cond.fieldLinkNest "InSyncLog$Broker" (67 : Nat) "InSyncLog$Controller" "epoch" "I" "InSyncLog") ∈ xnl := wn1 (List.mem_of_getElem? (i := 35) rfl) rfl
theorem w36 : (Cond.fieldLinkNest "InSyncLog" (135 : Nat) "InSyncLog$Controller" "epoch" "I" "InSyncLog") ∈ xnl := wn1 (List.mem_of_getElem? (i := 36) rfl) rfl
theorem w37 : (Cond.fieldLink "InSyncLog$Controller" (15 : Nat) "InSyncLog$Controller" "leader" "I") ∈ wsBig := wb1 (List.mem_of_getElem? (i := 37) rfl) rfl
theorem w38 : (Cond.fieldLinkNest "InSyncLog$Broker" (70 : Nat) "InSyncLog$Controller" "leader" "I" "InSyncLog") ∈ xnl := wn1 (List.mem_of_getElem? (i := 38) rfl) rfl
theorem w39 : (Cond.fieldLinkNest "InSyncLog" (172 : Nat) "InSyncLog$Controller" "leader" "I" "InSyncLog") ∈ xnl := wn1 (List.mem_of_getElem? (i := 39) rfl) rfl
theorem w40 : (Cond.fieldLink "InSyncLog$Controller" (18 : Nat) "InSyncLog$Controller" "isr" "I") ∈ wsBig := wb1 (List.mem_of_getElem? (i := 40) rfl) rfl
theorem w41 : (Cond.fieldLinkNest "InSyncLog$Broker" (71 : Nat) "InSyncLog$Controller" "isr" "I" "InSyncLog") ∈ xnl := wn1 (List.mem_of_getElem? (i := 41) rfl) rfl
theorem w42 : (Cond.fieldLinkNest "InSyncLog" (143 : Nat) "InSyncLog$Controller" "isr" "I" "InSyncLog") ∈ xnl := wn1 (List.mem_of_getElem? (i := 42) rfl) rfl
theorem w43 : (Cond.lays "InSyncLog$Controller" "InSyncLog$Controller" "epoch" "I") ∈ wsBig := wb1 (List.mem_of_getElem? (i := 43) rfl) rfl
theorem w45 : (Cond.lays "InSyncLog$Controller" "InSyncLog$Controller" "leader" "I") ∈ wsBig := wb1 (List.mem_of_getElem? (i := 45) rfl) rfl
theorem w47 : (Cond.lays "InSyncLog$Controller" "InSyncLog$Controller" "isr" "I") ∈ wsBig := wb1 (List.mem_of_getElem? (i := 47) rfl) rfl
theorem w50 : (Cond.classLink "InSyncLog" (30 : Nat) "InSyncLog$Channel") ∈ wsBig := wb1 (List.mem_of_getElem? (i := 50) rfl) rfl
theorem w51 : (Cond.instantiable "InSyncLog$Channel" (2 : Nat)) ∈ wsBig := wb1 (List.mem_of_getElem? (i := 51) rfl) rfl
theorem w52 : (Cond.methodLinkNest "InSyncLog" (32 : Nat) ({ cls := "InSyncLog$Channel", name := "<init>", desc := "()V" } : MethodName) "InSyncLog") ∈ xnl := wn1 (List.mem_of_getElem? (i := 52) rfl) rfl
theorem w53 : (Cond.instanceMethod ({ cls := "InSyncLog$Channel", name := "<init>", desc := "()V" } : MethodName)) ∈ wsBig := wb1 (List.mem_of_getElem? (i := 53) rfl) rfl
theorem w54 : (Cond.code ({ cls := "InSyncLog$Channel", name := "<init>", desc := "()V" } : MethodName) prog_3_method_1_code (2 : Nat) (Option.none : Option FieldType)) ∈ wsBig := wb1 (List.mem_of_getElem? (i := 54) rfl) rfl
theorem w55 : (Cond.methodLink "InSyncLog$Channel" (3 : Nat) ({ cls := "java/lang/Object", name := "<init>", desc := "()V" } : MethodName)) ∈ wsBig := wb1 (List.mem_of_getElem? (i := 55) rfl) rfl
theorem w56 : (Cond.classLink "InSyncLog$Channel" (9 : Nat) "InSyncLog$Message") ∈ wsBig := wb1 (List.mem_of_getElem? (i := 56) rfl) rfl
theorem w58 : (Cond.instantiable "InSyncLog$Message" (9 : Nat)) ∈ wsBig := wb1 (List.mem_of_getElem? (i := 58) rfl) rfl
theorem w59 : (Cond.methodLinkNest "InSyncLog$Channel" (21 : Nat) ({ cls := "InSyncLog$Message", name := "<init>", desc := "()V" } : MethodName) "InSyncLog") ∈ xnl := wn1 (List.mem_of_getElem? (i := 59) rfl) rfl
theorem w60 : (Cond.instanceMethod ({ cls := "InSyncLog$Message", name := "<init>", desc := "()V" } : MethodName)) ∈ wsBig := wb1 (List.mem_of_getElem? (i := 60) rfl) rfl
theorem w61 : (Cond.code ({ cls := "InSyncLog$Message", name := "<init>", desc := "()V" } : MethodName) prog_6_method_1_code (1 : Nat) (Option.none : Option FieldType)) ∈ wsBig := wb1 (List.mem_of_getElem? (i := 61) rfl) rfl
theorem w62 : (Cond.methodLink "InSyncLog$Message" (3 : Nat) ({ cls := "java/lang/Object", name := "<init>", desc := "()V" } : MethodName)) ∈ wsBig := wb1 (List.mem_of_getElem? (i := 62) rfl) rfl
theorem w63 : (Cond.fieldLink "InSyncLog$Message" (9 : Nat) "InSyncLog$Message" "stamps" "[I") ∈ wsBig := wb1 (List.mem_of_getElem? (i := 63) rfl) rfl
theorem w64 : (Cond.fieldLink "InSyncLog$Message" (15 : Nat) "InSyncLog$Message" "values" "[I") ∈ wsBig := wb1 (List.mem_of_getElem? (i := 64) rfl) rfl
theorem w65 : (Cond.fieldLink "InSyncLog$Message" (18 : Nat) "InSyncLog$Message" "kind" "I") ∈ wsBig := wb1 (List.mem_of_getElem? (i := 65) rfl) rfl
theorem w66 : (Cond.fieldLinkNest "InSyncLog$Channel" (26 : Nat) "InSyncLog$Message" "kind" "I" "InSyncLog") ∈ xnl := wn1 (List.mem_of_getElem? (i := 66) rfl) rfl
theorem w67 : (Cond.fieldLinkNest "InSyncLog" (113 : Nat) "InSyncLog$Message" "kind" "I" "InSyncLog") ∈ xnl := wn1 (List.mem_of_getElem? (i := 67) rfl) rfl
theorem w68 : (Cond.fieldLinkNest "InSyncLog$Broker" (98 : Nat) "InSyncLog$Message" "kind" "I" "InSyncLog") ∈ xnl := wn1 (List.mem_of_getElem? (i := 68) rfl) rfl
theorem w69 : (Cond.fieldLink "InSyncLog$Message" (22 : Nat) "InSyncLog$Message" "from" "I") ∈ wsBig := wb1 (List.mem_of_getElem? (i := 69) rfl) rfl
theorem w70 : (Cond.fieldLinkNest "InSyncLog$Channel" (34 : Nat) "InSyncLog$Message" "from" "I" "InSyncLog") ∈ xnl := wn1 (List.mem_of_getElem? (i := 70) rfl) rfl
theorem w71 : (Cond.fieldLinkNest "InSyncLog" (209 : Nat) "InSyncLog$Message" "from" "I" "InSyncLog") ∈ xnl := wn1 (List.mem_of_getElem? (i := 71) rfl) rfl
theorem w72 : (Cond.fieldLink "InSyncLog$Message" (25 : Nat) "InSyncLog$Message" "to" "I") ∈ wsBig := wb1 (List.mem_of_getElem? (i := 72) rfl) rfl
theorem w73 : (Cond.fieldLinkNest "InSyncLog$Channel" (37 : Nat) "InSyncLog$Message" "to" "I" "InSyncLog") ∈ xnl := wn1 (List.mem_of_getElem? (i := 73) rfl) rfl
theorem w74 : (Cond.fieldLinkNest "InSyncLog" (108 : Nat) "InSyncLog$Message" "to" "I" "InSyncLog") ∈ xnl := wn1 (List.mem_of_getElem? (i := 74) rfl) rfl
theorem w75 : (Cond.fieldLink "InSyncLog$Message" (28 : Nat) "InSyncLog$Message" "epoch" "I") ∈ wsBig := wb1 (List.mem_of_getElem? (i := 75) rfl) rfl
theorem w76 : (Cond.fieldLinkNest "InSyncLog$Channel" (43 : Nat) "InSyncLog$Message" "epoch" "I" "InSyncLog") ∈ xnl := wn1 (List.mem_of_getElem? (i := 76) rfl) rfl
theorem w77 : (Cond.fieldLinkNest "InSyncLog$Broker" (121 : Nat) "InSyncLog$Message" "epoch" "I" "InSyncLog") ∈ xnl := wn1 (List.mem_of_getElem? (i := 77) rfl) rfl
theorem w78 : (Cond.fieldLinkNest "InSyncLog" (199 : Nat) "InSyncLog$Message" "epoch" "I" "InSyncLog") ∈ xnl := wn1 (List.mem_of_getElem? (i := 78) rfl) rfl
theorem w79 : (Cond.fieldLink "InSyncLog$Message" (31 : Nat) "InSyncLog$Message" "number" "I") ∈ wsBig := wb1 (List.mem_of_getElem? (i := 79) rfl) rfl
theorem w80 : (Cond.fieldLinkNest "InSyncLog$Channel" (44 : Nat) "InSyncLog$Message" "number" "I" "InSyncLog") ∈ xnl := wn1 (List.mem_of_getElem? (i := 80) rfl) rfl
theorem w81 : (Cond.fieldLinkNest "InSyncLog$Broker" (122 : Nat) "InSyncLog$Message" "number" "I" "InSyncLog") ∈ xnl := wn1 (List.mem_of_getElem? (i := 81) rfl) rfl
theorem w82 : (Cond.fieldLinkNest "InSyncLog" (225 : Nat) "InSyncLog$Message" "number" "I" "InSyncLog") ∈ xnl := wn1 (List.mem_of_getElem? (i := 82) rfl) rfl
theorem w83 : (Cond.fieldLink "InSyncLog$Message" (34 : Nat) "InSyncLog$Message" "size" "I") ∈ wsBig := wb1 (List.mem_of_getElem? (i := 83) rfl) rfl
theorem w84 : (Cond.fieldLinkNest "InSyncLog$Channel" (47 : Nat) "InSyncLog$Message" "size" "I" "InSyncLog") ∈ xnl := wn1 (List.mem_of_getElem? (i := 84) rfl) rfl
theorem w85 : (Cond.fieldLinkNest "InSyncLog$Broker" (103 : Nat) "InSyncLog$Message" "size" "I" "InSyncLog") ∈ xnl := wn1 (List.mem_of_getElem? (i := 85) rfl) rfl
theorem w86 : (Cond.fieldLinkNest "InSyncLog" (200 : Nat) "InSyncLog$Message" "size" "I" "InSyncLog") ∈ xnl := wn1 (List.mem_of_getElem? (i := 86) rfl) rfl
theorem w87 : (Cond.fieldLink "InSyncLog$Message" (37 : Nat) "InSyncLog$Message" "tail" "I") ∈ wsBig := wb1 (List.mem_of_getElem? (i := 87) rfl) rfl
theorem w88 : (Cond.fieldLinkNest "InSyncLog$Channel" (50 : Nat) "InSyncLog$Message" "tail" "I" "InSyncLog") ∈ xnl := wn1 (List.mem_of_getElem? (i := 88) rfl) rfl
theorem w89 : (Cond.fieldLinkNest "InSyncLog$Broker" (106 : Nat) "InSyncLog$Message" "tail" "I" "InSyncLog") ∈ xnl := wn1 (List.mem_of_getElem? (i := 89) rfl) rfl
theorem w90 : (Cond.fieldLinkNest "InSyncLog" (203 : Nat) "InSyncLog$Message" "tail" "I" "InSyncLog") ∈ xnl := wn1 (List.mem_of_getElem? (i := 90) rfl) rfl
theorem w91 : (Cond.laysFinal "InSyncLog$Message" "InSyncLog$Message" "stamps" "[I") ∈ wsBig := wb1 (List.mem_of_getElem? (i := 91) rfl) rfl
theorem w93 : (Cond.laysFinal "InSyncLog$Message" "InSyncLog$Message" "values" "[I") ∈ wsBig := wb1 (List.mem_of_getElem? (i := 93) rfl) rfl
theorem w95 : (Cond.lays "InSyncLog$Message" "InSyncLog$Message" "kind" "I") ∈ wsBig := wb1 (List.mem_of_getElem? (i := 95) rfl) rfl
theorem w97 : (Cond.lays "InSyncLog$Message" "InSyncLog$Message" "from" "I") ∈ wsBig := wb1 (List.mem_of_getElem? (i := 97) rfl) rfl
theorem w99 : (Cond.lays "InSyncLog$Message" "InSyncLog$Message" "to" "I") ∈ wsBig := wb1 (List.mem_of_getElem? (i := 99) rfl) rfl
theorem w101 : (Cond.lays "InSyncLog$Message" "InSyncLog$Message" "epoch" "I") ∈ wsBig := wb1 (List.mem_of_getElem? (i := 101) rfl) rfl
theorem w103 : (Cond.lays "InSyncLog$Message" "InSyncLog$Message" "number" "I") ∈ wsBig := wb1 (List.mem_of_getElem? (i := 103) rfl) rfl
theorem w105 : (Cond.lays "InSyncLog$Message" "InSyncLog$Message" "size" "I") ∈ wsBig := wb1 (List.mem_of_getElem? (i := 105) rfl) rfl
theorem w107 : (Cond.lays "InSyncLog$Message" "InSyncLog$Message" "tail" "I") ∈ wsBig := wb1 (List.mem_of_getElem? (i := 107) rfl) rfl
theorem w110 : (Cond.arrayClass FieldType.int) ∈ wsBig := wb1 (List.mem_of_getElem? (i := 110) rfl) rfl
theorem w111 : (Cond.fieldLink "InSyncLog$Channel" (11 : Nat) "InSyncLog$Channel" "slots" "[LInSyncLog$Message;") ∈ wsBig := wb1 (List.mem_of_getElem? (i := 111) rfl) rfl
theorem w112 : (Cond.fieldLinkNest "InSyncLog" (128 : Nat) "InSyncLog$Channel" "slots" "[LInSyncLog$Message;" "InSyncLog") ∈ xnl := wn1 (List.mem_of_getElem? (i := 112) rfl) rfl
theorem w113 : (Cond.fieldLink "InSyncLog$Channel" (17 : Nat) "InSyncLog$Channel" "count" "I") ∈ wsBig := wb1 (List.mem_of_getElem? (i := 113) rfl) rfl
theorem w114 : (Cond.fieldLinkNest "InSyncLog" (124 : Nat) "InSyncLog$Channel" "count" "I" "InSyncLog") ∈ xnl := wn1 (List.mem_of_getElem? (i := 114) rfl) rfl
theorem w115 : (Cond.laysFinal "InSyncLog$Channel" "InSyncLog$Channel" "slots" "[LInSyncLog$Message;") ∈ wsBig := wb1 (List.mem_of_getElem? (i := 115) rfl) rfl
theorem w117 : (Cond.lays "InSyncLog$Channel" "InSyncLog$Channel" "count" "I") ∈ wsBig := wb1 (List.mem_of_getElem? (i := 117) rfl) rfl
theorem w120 : (Cond.classLink "InSyncLog" (37 : Nat) "InSyncLog$Broker") ∈ wsBig := wb1 (List.mem_of_getElem? (i := 120) rfl) rfl
theorem w122 : (Cond.instantiable "InSyncLog$Broker" (12 : Nat)) ∈ wsBig := wb1 (List.mem_of_getElem? (i := 122) rfl) rfl
theorem w123 : (Cond.methodLinkNest "InSyncLog" (43 : Nat) ({ cls := "InSyncLog$Broker", name := "<init>", desc := "(I)V" } : MethodName) "InSyncLog") ∈ xnl := wn1 (List.mem_of_getElem? (i := 123) rfl) rfl
theorem w124 : (Cond.instanceMethod ({ cls := "InSyncLog$Broker", name := "<init>", desc := "(I)V" } : MethodName)) ∈ wsBig := wb1 (List.mem_of_getElem? (i := 124) rfl) rfl
theorem w125 : (Cond.code ({ cls := "InSyncLog$Broker", name := "<init>", desc := "(I)V" } : MethodName) prog_2_method_1_code (2 : Nat) (Option.none : Option FieldType)) ∈ wsBig := wb1 (List.mem_of_getElem? (i := 125) rfl) rfl
theorem w126 : (Cond.methodLink "InSyncLog$Broker" (3 : Nat) ({ cls := "java/lang/Object", name := "<init>", desc := "()V" } : MethodName)) ∈ wsBig := wb1 (List.mem_of_getElem? (i := 126) rfl) rfl
theorem w127 : (Cond.classLink "InSyncLog$Broker" (9 : Nat) "InSyncLog$Log") ∈ wsBig := wb1 (List.mem_of_getElem? (i := 127) rfl) rfl
theorem w128 : (Cond.instantiable "InSyncLog$Log" (3 : Nat)) ∈ wsBig := wb1 (List.mem_of_getElem? (i := 128) rfl) rfl
theorem w129 : (Cond.methodLinkNest "InSyncLog$Broker" (11 : Nat) ({ cls := "InSyncLog$Log", name := "<init>", desc := "()V" } : MethodName) "InSyncLog") ∈ xnl := wn1 (List.mem_of_getElem? (i := 129) rfl) rfl
theorem w130 : (Cond.instanceMethod ({ cls := "InSyncLog$Log", name := "<init>", desc := "()V" } : MethodName)) ∈ wsBig := wb1 (List.mem_of_getElem? (i := 130) rfl) rfl
theorem w131 : (Cond.code ({ cls := "InSyncLog$Log", name := "<init>", desc := "()V" } : MethodName) prog_5_method_1_code (1 : Nat) (Option.none : Option FieldType)) ∈ wsBig := wb1 (List.mem_of_getElem? (i := 131) rfl) rfl
theorem w132 : (Cond.methodLink "InSyncLog$Log" (3 : Nat) ({ cls := "java/lang/Object", name := "<init>", desc := "()V" } : MethodName)) ∈ wsBig := wb1 (List.mem_of_getElem? (i := 132) rfl) rfl
theorem w133 : (Cond.fieldLink "InSyncLog$Log" (9 : Nat) "InSyncLog$Log" "stamps" "[I") ∈ wsBig := wb1 (List.mem_of_getElem? (i := 133) rfl) rfl
theorem w134 : (Cond.fieldLink "InSyncLog$Log" (15 : Nat) "InSyncLog$Log" "values" "[I") ∈ wsBig := wb1 (List.mem_of_getElem? (i := 134) rfl) rfl
theorem w135 : (Cond.fieldLink "InSyncLog$Log" (18 : Nat) "InSyncLog$Log" "end" "I") ∈ wsBig := wb1 (List.mem_of_getElem? (i := 135) rfl) rfl
theorem w136 : (Cond.fieldLinkNest "InSyncLog$Broker" (64 : Nat) "InSyncLog$Log" "end" "I" "InSyncLog") ∈ xnl := wn1 (List.mem_of_getElem? (i := 136) rfl) rfl
theorem w137 : (Cond.fieldLinkNest "InSyncLog" (93 : Nat) "InSyncLog$Log" "end" "I" "InSyncLog") ∈ xnl := wn1 (List.mem_of_getElem? (i := 137) rfl) rfl
theorem w138 : (Cond.laysFinal "InSyncLog$Log" "InSyncLog$Log" "stamps" "[I") ∈ wsBig := wb1 (List.mem_of_getElem? (i := 138) rfl) rfl
theorem w140 : (Cond.laysFinal "InSyncLog$Log" "InSyncLog$Log" "values" "[I") ∈ wsBig := wb1 (List.mem_of_getElem? (i := 140) rfl) rfl
theorem w142 : (Cond.lays "InSyncLog$Log" "InSyncLog$Log" "end" "I") ∈ wsBig := wb1 (List.mem_of_getElem? (i := 142) rfl) rfl
theorem w145 : (Cond.methodLink "InSyncLog$Broker" (54 : Nat) ({ cls := "java/util/Arrays", name := "fill", desc := "([II)V" } : MethodName)) ∈ wsBig := wb1 (List.mem_of_getElem? (i := 145) rfl) rfl
theorem w146 : (Cond.static ({ cls := "java/util/Arrays", name := "fill", desc := "([II)V" } : MethodName)) ∈ wsBig := wb1 (List.mem_of_getElem? (i := 146) rfl) rfl
theorem w147 : (Cond.code ({ cls := "java/util/Arrays", name := "fill", desc := "([II)V" } : MethodName) prog_11_method_103_code (4 : Nat) (Option.none : Option FieldType)) ∈ wsBig := wb1 (List.mem_of_getElem? (i := 147) rfl) rfl
theorem w148 : (Cond.fieldLink "InSyncLog$Broker" (51 : Nat) "InSyncLog$Broker" "id" "I") ∈ wsBig := wb1 (List.mem_of_getElem? (i := 148) rfl) rfl
theorem w149 : (Cond.fieldLinkNest "InSyncLog$Channel" (29 : Nat) "InSyncLog$Broker" "id" "I" "InSyncLog") ∈ xnl := wn1 (List.mem_of_getElem? (i := 149) rfl) rfl
theorem w150 : (Cond.fieldLink "InSyncLog$Broker" (12 : Nat) "InSyncLog$Broker" "log" "LInSyncLog$Log;") ∈ wsBig := wb1 (List.mem_of_getElem? (i := 150) rfl) rfl
theorem w151 : (Cond.fieldLinkNest "InSyncLog" (60 : Nat) "InSyncLog$Broker" "log" "LInSyncLog$Log;" "InSyncLog") ∈ xnl := wn1 (List.mem_of_getElem? (i := 151) rfl) rfl
theorem w152 : (Cond.fieldLink "InSyncLog$Broker" (18 : Nat) "InSyncLog$Broker" "fetched" "[I") ∈ wsBig := wb1 (List.mem_of_getElem? (i := 152) rfl) rfl
theorem w153 : (Cond.fieldLink "InSyncLog$Broker" (22 : Nat) "InSyncLog$Broker" "caughtUp" "[I") ∈ wsBig := wb1 (List.mem_of_getElem? (i := 153) rfl) rfl
theorem w154 : (Cond.fieldLink "InSyncLog$Broker" (25 : Nat) "InSyncLog$Broker" "up" "Z") ∈ wsBig := wb1 (List.mem_of_getElem? (i := 154) rfl) rfl
theorem w155 : (Cond.fieldLinkNest "InSyncLog" (162 : Nat) "InSyncLog$Broker" "up" "Z" "InSyncLog") ∈ xnl := wn1 (List.mem_of_getElem? (i := 155) rfl) rfl
theorem w156 : (Cond.fieldLink "InSyncLog$Broker" (29 : Nat) "InSyncLog$Broker" "epoch" "I") ∈ wsBig := wb1 (List.mem_of_getElem? (i := 156) rfl) rfl
theorem w157 : (Cond.fieldLinkNest "InSyncLog" (50 : Nat) "InSyncLog$Broker" "epoch" "I" "InSyncLog") ∈ xnl := wn1 (List.mem_of_getElem? (i := 157) rfl) rfl
theorem w158 : (Cond.fieldLinkNest "InSyncLog$Channel" (40 : Nat) "InSyncLog$Broker" "epoch" "I" "InSyncLog") ∈ xnl := wn1 (List.mem_of_getElem? (i := 158) rfl) rfl
theorem w159 : (Cond.fieldLink "InSyncLog$Broker" (33 : Nat) "InSyncLog$Broker" "leader" "I") ∈ wsBig := wb1 (List.mem_of_getElem? (i := 159) rfl) rfl
theorem w160 : (Cond.fieldLinkNest "InSyncLog" (83 : Nat) "InSyncLog$Broker" "leader" "I" "InSyncLog") ∈ xnl := wn1 (List.mem_of_getElem? (i := 160) rfl) rfl
theorem w161 : (Cond.fieldLink "InSyncLog$Broker" (36 : Nat) "InSyncLog$Broker" "hw" "I") ∈ wsBig := wb1 (List.mem_of_getElem? (i := 161) rfl) rfl
theorem w162 : (Cond.fieldLinkNest "InSyncLog" (57 : Nat) "InSyncLog$Broker" "hw" "I" "InSyncLog") ∈ xnl := wn1 (List.mem_of_getElem? (i := 162) rfl) rfl
theorem w163 : (Cond.fieldLink "InSyncLog$Broker" (39 : Nat) "InSyncLog$Broker" "fetches" "I") ∈ wsBig := wb1 (List.mem_of_getElem? (i := 163) rfl) rfl
theorem w164 : (Cond.fieldLinkNest "InSyncLog" (86 : Nat) "InSyncLog$Broker" "fetches" "I" "InSyncLog") ∈ xnl := wn1 (List.mem_of_getElem? (i := 164) rfl) rfl
theorem w165 : (Cond.fieldLink "InSyncLog$Broker" (42 : Nat) "InSyncLog$Broker" "awaits" "Z") ∈ wsBig := wb1 (List.mem_of_getElem? (i := 165) rfl) rfl
theorem w166 : (Cond.fieldLinkNest "InSyncLog" (89 : Nat) "InSyncLog$Broker" "awaits" "Z" "InSyncLog") ∈ xnl := wn1 (List.mem_of_getElem? (i := 166) rfl) rfl
theorem w167 : (Cond.fieldLink "InSyncLog$Broker" (45 : Nat) "InSyncLog$Broker" "start" "I") ∈ wsBig := wb1 (List.mem_of_getElem? (i := 167) rfl) rfl
theorem w168 : (Cond.fieldLink "InSyncLog$Broker" (48 : Nat) "InSyncLog$Broker" "sync" "I") ∈ wsBig := wb1 (List.mem_of_getElem? (i := 168) rfl) rfl
theorem w169 : (Cond.fieldLinkNest "InSyncLog" (146 : Nat) "InSyncLog$Broker" "sync" "I" "InSyncLog") ∈ xnl := wn1 (List.mem_of_getElem? (i := 169) rfl) rfl
theorem w170 : (Cond.laysFinal "InSyncLog$Broker" "InSyncLog$Broker" "id" "I") ∈ wsBig := wb1 (List.mem_of_getElem? (i := 170) rfl) rfl
theorem w172 : (Cond.laysFinal "InSyncLog$Broker" "InSyncLog$Broker" "log" "LInSyncLog$Log;") ∈ wsBig := wb1 (List.mem_of_getElem? (i := 172) rfl) rfl
theorem w174 : (Cond.laysFinal "InSyncLog$Broker" "InSyncLog$Broker" "fetched" "[I") ∈ wsBig := wb1 (List.mem_of_getElem? (i := 174) rfl) rfl
theorem w176 : (Cond.laysFinal "InSyncLog$Broker" "InSyncLog$Broker" "caughtUp" "[I") ∈ wsBig := wb1 (List.mem_of_getElem? (i := 176) rfl) rfl
theorem w178 : (Cond.lays "InSyncLog$Broker" "InSyncLog$Broker" "up" "Z") ∈ wsBig := wb1 (List.mem_of_getElem? (i := 178) rfl) rfl
theorem w180 : (Cond.lays "InSyncLog$Broker" "InSyncLog$Broker" "epoch" "I") ∈ wsBig := wb1 (List.mem_of_getElem? (i := 180) rfl) rfl
theorem w182 : (Cond.lays "InSyncLog$Broker" "InSyncLog$Broker" "leader" "I") ∈ wsBig := wb1 (List.mem_of_getElem? (i := 182) rfl) rfl
theorem w184 : (Cond.lays "InSyncLog$Broker" "InSyncLog$Broker" "hw" "I") ∈ wsBig := wb1 (List.mem_of_getElem? (i := 184) rfl) rfl
theorem w186 : (Cond.lays "InSyncLog$Broker" "InSyncLog$Broker" "fetches" "I") ∈ wsBig := wb1 (List.mem_of_getElem? (i := 186) rfl) rfl
theorem w188 : (Cond.lays "InSyncLog$Broker" "InSyncLog$Broker" "awaits" "Z") ∈ wsBig := wb1 (List.mem_of_getElem? (i := 188) rfl) rfl
theorem w190 : (Cond.lays "InSyncLog$Broker" "InSyncLog$Broker" "start" "I") ∈ wsBig := wb1 (List.mem_of_getElem? (i := 190) rfl) rfl
theorem w192 : (Cond.lays "InSyncLog$Broker" "InSyncLog$Broker" "sync" "I") ∈ wsBig := wb1 (List.mem_of_getElem? (i := 192) rfl) rfl
theorem w195 : (Cond.fieldLink "InSyncLog" (13 : Nat) "InSyncLog" "lag" "I") ∈ wsBig := wb1 (List.mem_of_getElem? (i := 195) rfl) rfl
theorem w196 : (Cond.fieldLink "InSyncLog" (17 : Nat) "InSyncLog" "batch" "I") ∈ wsBig := wb1 (List.mem_of_getElem? (i := 196) rfl) rfl
theorem w197 : (Cond.fieldLink "InSyncLog" (20 : Nat) "InSyncLog" "least" "I") ∈ wsBig := wb1 (List.mem_of_getElem? (i := 197) rfl) rfl
theorem w198 : (Cond.fieldLink "InSyncLog" (39 : Nat) "InSyncLog" "brokers" "[LInSyncLog$Broker;") ∈ wsBig := wb1 (List.mem_of_getElem? (i := 198) rfl) rfl
theorem w199 : (Cond.fieldLink "InSyncLog" (26 : Nat) "InSyncLog" "control" "LInSyncLog$Controller;") ∈ wsBig := wb1 (List.mem_of_getElem? (i := 199) rfl) rfl
theorem w200 : (Cond.fieldLink "InSyncLog" (33 : Nat) "InSyncLog" "channel" "LInSyncLog$Channel;") ∈ wsBig := wb1 (List.mem_of_getElem? (i := 200) rfl) rfl
theorem w201 : (Cond.fieldLink "InSyncLog" (136 : Nat) "InSyncLog" "time" "I") ∈ wsBig := wb1 (List.mem_of_getElem? (i := 201) rfl) rfl
theorem w202 : (Cond.laysFinal "InSyncLog" "InSyncLog" "lag" "I") ∈ wsBig := wb1 (List.mem_of_getElem? (i := 202) rfl) rfl
theorem w204 : (Cond.laysFinal "InSyncLog" "InSyncLog" "batch" "I") ∈ wsBig := wb1 (List.mem_of_getElem? (i := 204) rfl) rfl
theorem w206 : (Cond.laysFinal "InSyncLog" "InSyncLog" "least" "I") ∈ wsBig := wb1 (List.mem_of_getElem? (i := 206) rfl) rfl
theorem w208 : (Cond.laysFinal "InSyncLog" "InSyncLog" "brokers" "[LInSyncLog$Broker;") ∈ wsBig := wb1 (List.mem_of_getElem? (i := 208) rfl) rfl
theorem w210 : (Cond.laysFinal "InSyncLog" "InSyncLog" "control" "LInSyncLog$Controller;") ∈ wsBig := wb1 (List.mem_of_getElem? (i := 210) rfl) rfl
theorem w212 : (Cond.laysFinal "InSyncLog" "InSyncLog" "channel" "LInSyncLog$Channel;") ∈ wsBig := wb1 (List.mem_of_getElem? (i := 212) rfl) rfl
theorem w214 : (Cond.lays "InSyncLog" "InSyncLog" "time" "I") ∈ wsBig := wb1 (List.mem_of_getElem? (i := 214) rfl) rfl
theorem w217 : (Cond.methodLink "InSyncLogLaw" (21 : Nat) ({ cls := "InSyncLog", name := "produce", desc := "(II)I" } : MethodName)) ∈ wsBig := wb1 (List.mem_of_getElem? (i := 217) rfl) rfl
theorem w218 : (Cond.instanceMethod ({ cls := "InSyncLog", name := "produce", desc := "(II)I" } : MethodName)) ∈ wsBig := wb1 (List.mem_of_getElem? (i := 218) rfl) rfl
theorem w219 : (Cond.selects "InSyncLog" ({ cls := "InSyncLog", name := "produce", desc := "(II)I" } : MethodName) ({ cls := "InSyncLog", name := "produce", desc := "(II)I" } : MethodName)) ∈ wsBig := wb1 (List.mem_of_getElem? (i := 219) rfl) rfl
theorem w220 : (Cond.code ({ cls := "InSyncLog", name := "produce", desc := "(II)I" } : MethodName) prog_1_method_2_code (3 : Nat) (Option.some FieldType.int)) ∈ wsBig := wb1 (List.mem_of_getElem? (i := 220) rfl) rfl
theorem w221 : (Cond.methodLink "InSyncLog" (46 : Nat) ({ cls := "InSyncLog", name := "isLeading", desc := "(I)Z" } : MethodName)) ∈ wsBig := wb1 (List.mem_of_getElem? (i := 221) rfl) rfl
theorem w223 : (Cond.instanceMethod ({ cls := "InSyncLog", name := "isLeading", desc := "(I)Z" } : MethodName)) ∈ wsBig := wb1 (List.mem_of_getElem? (i := 223) rfl) rfl
theorem w224 : (Cond.code ({ cls := "InSyncLog", name := "isLeading", desc := "(I)Z" } : MethodName) prog_1_method_26_code (2 : Nat) (Option.some FieldType.boolean)) ∈ wsBig := wb1 (List.mem_of_getElem? (i := 224) rfl) rfl
theorem w225 : (Cond.methodLink "InSyncLog" (159 : Nat) ({ cls := "InSyncLog", name := "isBroker", desc := "(I)Z" } : MethodName)) ∈ wsBig := wb1 (List.mem_of_getElem? (i := 225) rfl) rfl
theorem w226 : (Cond.static ({ cls := "InSyncLog", name := "isBroker", desc := "(I)Z" } : MethodName)) ∈ wsBig := wb1 (List.mem_of_getElem? (i := 226) rfl) rfl
theorem w227 : (Cond.code ({ cls := "InSyncLog", name := "isBroker", desc := "(I)Z" } : MethodName) prog_1_method_22_code (1 : Nat) (Option.some FieldType.boolean)) ∈ wsBig := wb1 (List.mem_of_getElem? (i := 227) rfl) rfl
theorem w228 : (Cond.methodLinkNest "InSyncLog" (79 : Nat) ({ cls := "InSyncLog$Broker", name := "leads", desc := "()Z" } : MethodName) "InSyncLog") ∈ xnl := wn1 (List.mem_of_getElem? (i := 228) rfl) rfl
theorem w230 : (Cond.instanceMethod ({ cls := "InSyncLog$Broker", name := "leads", desc := "()Z" } : MethodName)) ∈ wsBig := wb1 (List.mem_of_getElem? (i := 230) rfl) rfl
theorem w231 : (Cond.code ({ cls := "InSyncLog$Broker", name := "leads", desc := "()Z" } : MethodName) prog_2_method_2_code (1 : Nat) (Option.some FieldType.boolean)) ∈ wsBig := wb1 (List.mem_of_getElem? (i := 231) rfl) rfl
theorem w232 : (Cond.methodLink "InSyncLog" (53 : Nat) ({ cls := "InSyncLog", name := "append", desc := "(LInSyncLog$Broker;II)I" } : MethodName)) ∈ wsBig := wb1 (List.mem_of_getElem? (i := 232) rfl) rfl
theorem w234 : (Cond.instanceMethod ({ cls := "InSyncLog", name := "append", desc := "(LInSyncLog$Broker;II)I" } : MethodName)) ∈ wsBig := wb1 (List.mem_of_getElem? (i := 234) rfl) rfl
theorem w235 : (Cond.code ({ cls := "InSyncLog", name := "append", desc := "(LInSyncLog$Broker;II)I" } : MethodName) prog_1_method_27_code (4 : Nat) (Option.some FieldType.int)) ∈ wsBig := wb1 (List.mem_of_getElem? (i := 235) rfl) rfl
theorem w236 : (Cond.methodLinkNest "InSyncLog" (187 : Nat) ({ cls := "InSyncLog$Log", name := "isFull", desc := "()Z" } : MethodName) "InSyncLog") ∈ xnl := wn1 (List.mem_of_getElem? (i := 236) rfl) rfl
theorem w238 : (Cond.instanceMethod ({ cls := "InSyncLog$Log", name := "isFull", desc := "()Z" } : MethodName)) ∈ wsBig := wb1 (List.mem_of_getElem? (i := 238) rfl) rfl
theorem w239 : (Cond.code ({ cls := "InSyncLog$Log", name := "isFull", desc := "()Z" } : MethodName) prog_5_method_3_code (1 : Nat) (Option.some FieldType.boolean)) ∈ wsBig := wb1 (List.mem_of_getElem? (i := 239) rfl) rfl
theorem w240 : (Cond.methodLink "InSyncLog" (190 : Nat) ({ cls := "java/lang/Integer", name := "bitCount", desc := "(I)I" } : MethodName)) ∈ wsBig := wb2 (List.mem_of_getElem? (i := 0) rfl) rfl
theorem w241 : (Cond.static ({ cls := "java/lang/Integer", name := "bitCount", desc := "(I)I" } : MethodName)) ∈ wsBig := wb2 (List.mem_of_getElem? (i := 1) rfl) rfl
theorem w242 : (Cond.code ({ cls := "java/lang/Integer", name := "bitCount", desc := "(I)I" } : MethodName) prog_9_method_49_code (1 : Nat) (Option.some FieldType.int)) ∈ wsBig := wb2 (List.mem_of_getElem? (i := 2) rfl) rfl
theorem w243 : (Cond.constant "java/lang/Integer" (265 : Nat) (1431655765 : Int32)) ∈ wsBig := wb2 (List.mem_of_getElem? (i := 3) rfl) rfl
theorem w244 : (Cond.constant "java/lang/Integer" (266 : Nat) (858993459 : Int32)) ∈ wsBig := wb2 (List.mem_of_getElem? (i := 4) rfl) rfl
theorem w245 : (Cond.constant "java/lang/Integer" (267 : Nat) (252645135 : Int32)) ∈ wsBig := wb2 (List.mem_of_getElem? (i := 5) rfl) rfl
theorem w246 : (Cond.methodLinkNest "InSyncLog" (195 : Nat) ({ cls := "InSyncLog$Log", name := "add", desc := "(II)V" } : MethodName) "InSyncLog") ∈ xnl := wn2 (List.mem_of_getElem? (i := 6) rfl) rfl
theorem w248 : (Cond.instanceMethod ({ cls := "InSyncLog$Log", name := "add", desc := "(II)V" } : MethodName)) ∈ wsBig := wb2 (List.mem_of_getElem? (i := 8) rfl) rfl
theorem w249 : (Cond.code ({ cls := "InSyncLog$Log", name := "add", desc := "(II)V" } : MethodName) prog_5_method_9_code (3 : Nat) (Option.none : Option FieldType)) ∈ wsBig := wb2 (List.mem_of_getElem? (i := 9) rfl) rfl
theorem w250 : (Cond.methodLink "InSyncLog$Log" (38 : Nat) ({ cls := "InSyncLog$Log", name := "isFull", desc := "()Z" } : MethodName)) ∈ wsBig := wb2 (List.mem_of_getElem? (i := 10) rfl) rfl
theorem w251 : (Cond.methodLinkNest "InSyncLog" (149 : Nat) ({ cls := "InSyncLog$Broker", name := "raiseHw", desc := "()V" } : MethodName) "InSyncLog") ∈ xnl := wn2 (List.mem_of_getElem? (i := 11) rfl) rfl
theorem w253 : (Cond.instanceMethod ({ cls := "InSyncLog$Broker", name := "raiseHw", desc := "()V" } : MethodName)) ∈ wsBig := wb2 (List.mem_of_getElem? (i := 13) rfl) rfl
theorem w254 : (Cond.code ({ cls := "InSyncLog$Broker", name := "raiseHw", desc := "()V" } : MethodName) prog_2_method_7_code (3 : Nat) (Option.none : Option FieldType)) ∈ wsBig := wb2 (List.mem_of_getElem? (i := 14) rfl) rfl
theorem w255 : (Cond.methodLinkNest "InSyncLog$Broker" (83 : Nat) ({ cls := "InSyncLog", name := "contains", desc := "(II)Z" } : MethodName) "InSyncLog") ∈ xnl := wn2 (List.mem_of_getElem? (i := 15) rfl) rfl
theorem w256 : (Cond.static ({ cls := "InSyncLog", name := "contains", desc := "(II)Z" } : MethodName)) ∈ wsBig := wb2 (List.mem_of_getElem? (i := 16) rfl) rfl
theorem w257 : (Cond.code ({ cls := "InSyncLog", name := "contains", desc := "(II)Z" } : MethodName) prog_1_method_23_code (2 : Nat) (Option.some FieldType.boolean)) ∈ wsBig := wb2 (List.mem_of_getElem? (i := 17) rfl) rfl
theorem w258 : (Cond.methodLink "InSyncLog$Broker" (87 : Nat) ({ cls := "java/lang/Math", name := "min", desc := "(II)I" } : MethodName)) ∈ wsBig := wb2 (List.mem_of_getElem? (i := 18) rfl) rfl
theorem w259 : (Cond.methodLink "InSyncLog$Broker" (74 : Nat) ({ cls := "java/lang/Math", name := "max", desc := "(II)I" } : MethodName)) ∈ wsBig := wb2 (List.mem_of_getElem? (i := 19) rfl) rfl
theorem w260 : (Cond.methodLink "InSyncLogLaw" (26 : Nat) ({ cls := "InSyncLog", name := "commit", desc := "(II)I" } : MethodName)) ∈ wsBig := wb2 (List.mem_of_getElem? (i := 20) rfl) rfl
theorem w261 : (Cond.instanceMethod ({ cls := "InSyncLog", name := "commit", desc := "(II)I" } : MethodName)) ∈ wsBig := wb2 (List.mem_of_getElem? (i := 21) rfl) rfl
theorem w262 : (Cond.selects "InSyncLog" ({ cls := "InSyncLog", name := "commit", desc := "(II)I" } : MethodName) ({ cls := "InSyncLog", name := "commit", desc := "(II)I" } : MethodName)) ∈ wsBig := wb2 (List.mem_of_getElem? (i := 22) rfl) rfl
theorem w263 : (Cond.code ({ cls := "InSyncLog", name := "commit", desc := "(II)I" } : MethodName) prog_1_method_3_code (3 : Nat) (Option.some FieldType.int)) ∈ wsBig := wb2 (List.mem_of_getElem? (i := 23) rfl) rfl
theorem w264 : (Cond.methodLink "InSyncLogLaw" (30 : Nat) ({ cls := "InSyncLog", name := "readable", desc := "(II)I" } : MethodName)) ∈ wsBig := wb2 (List.mem_of_getElem? (i := 24) rfl) rfl
theorem w265 : (Cond.instanceMethod ({ cls := "InSyncLog", name := "readable", desc := "(II)I" } : MethodName)) ∈ wsBig := wb2 (List.mem_of_getElem? (i := 25) rfl) rfl
theorem w266 : (Cond.selects "InSyncLog" ({ cls := "InSyncLog", name := "readable", desc := "(II)I" } : MethodName) ({ cls := "InSyncLog", name := "readable", desc := "(II)I" } : MethodName)) ∈ wsBig := wb2 (List.mem_of_getElem? (i := 26) rfl) rfl
theorem w267 : (Cond.code ({ cls := "InSyncLog", name := "readable", desc := "(II)I" } : MethodName) prog_1_method_4_code (3 : Nat) (Option.some FieldType.int)) ∈ wsBig := wb2 (List.mem_of_getElem? (i := 27) rfl) rfl
theorem w268 : (Cond.methodLinkNest "InSyncLog" (64 : Nat) ({ cls := "InSyncLog$Log", name := "has", desc := "(I)Z" } : MethodName) "InSyncLog") ∈ xnl := wn2 (List.mem_of_getElem? (i := 28) rfl) rfl
theorem w270 : (Cond.instanceMethod ({ cls := "InSyncLog$Log", name := "has", desc := "(I)Z" } : MethodName)) ∈ wsBig := wb2 (List.mem_of_getElem? (i := 30) rfl) rfl
theorem w271 : (Cond.code ({ cls := "InSyncLog$Log", name := "has", desc := "(I)Z" } : MethodName) prog_5_method_2_code (2 : Nat) (Option.some FieldType.boolean)) ∈ wsBig := wb2 (List.mem_of_getElem? (i := 31) rfl) rfl
theorem w272 : (Cond.methodLinkNest "InSyncLog" (69 : Nat) ({ cls := "InSyncLog$Log", name := "isMark", desc := "(I)Z" } : MethodName) "InSyncLog") ∈ xnl := wn2 (List.mem_of_getElem? (i := 32) rfl) rfl
theorem w274 : (Cond.instanceMethod ({ cls := "InSyncLog$Log", name := "isMark", desc := "(I)Z" } : MethodName)) ∈ wsBig := wb2 (List.mem_of_getElem? (i := 34) rfl) rfl
theorem w275 : (Cond.code ({ cls := "InSyncLog$Log", name := "isMark", desc := "(I)Z" } : MethodName) prog_5_method_4_code (2 : Nat) (Option.some FieldType.boolean)) ∈ wsBig := wb2 (List.mem_of_getElem? (i := 35) rfl) rfl
theorem w276 : (Cond.methodLink "InSyncLog$Log" (22 : Nat) ({ cls := "InSyncLog$Log", name := "stampOf", desc := "(I)I" } : MethodName)) ∈ wsBig := wb2 (List.mem_of_getElem? (i := 36) rfl) rfl
theorem w278 : (Cond.instanceMethod ({ cls := "InSyncLog$Log", name := "stampOf", desc := "(I)I" } : MethodName)) ∈ wsBig := wb2 (List.mem_of_getElem? (i := 38) rfl) rfl
theorem w279 : (Cond.code ({ cls := "InSyncLog$Log", name := "stampOf", desc := "(I)I" } : MethodName) prog_5_method_5_code (2 : Nat) (Option.some FieldType.int)) ∈ wsBig := wb2 (List.mem_of_getElem? (i := 39) rfl) rfl
theorem w280 : (Cond.methodLink "InSyncLog$Log" (26 : Nat) ({ cls := "InSyncLog$Log", name := "has", desc := "(I)Z" } : MethodName)) ∈ wsBig := wb2 (List.mem_of_getElem? (i := 40) rfl) rfl
theorem w281 : (Cond.methodLink "InSyncLogLaw" (34 : Nat) ({ cls := "InSyncLog", name := "committed", desc := "(I)I" } : MethodName)) ∈ wsBig := wb2 (List.mem_of_getElem? (i := 41) rfl) rfl
theorem w282 : (Cond.instanceMethod ({ cls := "InSyncLog", name := "committed", desc := "(I)I" } : MethodName)) ∈ wsBig := wb2 (List.mem_of_getElem? (i := 42) rfl) rfl
theorem w283 : (Cond.selects "InSyncLog" ({ cls := "InSyncLog", name := "committed", desc := "(I)I" } : MethodName) ({ cls := "InSyncLog", name := "committed", desc := "(I)I" } : MethodName)) ∈ wsBig := wb2 (List.mem_of_getElem? (i := 43) rfl) rfl
theorem w284 : (Cond.code ({ cls := "InSyncLog", name := "committed", desc := "(I)I" } : MethodName) prog_1_method_5_code (4 : Nat) (Option.some FieldType.int)) ∈ wsBig := wb2 (List.mem_of_getElem? (i := 44) rfl) rfl
theorem w285 : (Cond.methodLinkNest "InSyncLog" (72 : Nat) ({ cls := "InSyncLog$Log", name := "valueOf", desc := "(I)I" } : MethodName) "InSyncLog") ∈ xnl := wn2 (List.mem_of_getElem? (i := 45) rfl) rfl
theorem w287 : (Cond.instanceMethod ({ cls := "InSyncLog$Log", name := "valueOf", desc := "(I)I" } : MethodName)) ∈ wsBig := wb2 (List.mem_of_getElem? (i := 47) rfl) rfl
theorem w288 : (Cond.code ({ cls := "InSyncLog$Log", name := "valueOf", desc := "(I)I" } : MethodName) prog_5_method_7_code (2 : Nat) (Option.some FieldType.int)) ∈ wsBig := wb2 (List.mem_of_getElem? (i := 48) rfl) rfl
theorem w289 : (Cond.methodLink "InSyncLogLaw" (39 : Nat) ({ cls := "InSyncLog", name := "fetch", desc := "(I)Z" } : MethodName)) ∈ wsBig := wb2 (List.mem_of_getElem? (i := 49) rfl) rfl
theorem w290 : (Cond.instanceMethod ({ cls := "InSyncLog", name := "fetch", desc := "(I)Z" } : MethodName)) ∈ wsBig := wb2 (List.mem_of_getElem? (i := 50) rfl) rfl
theorem w291 : (Cond.selects "InSyncLog" ({ cls := "InSyncLog", name := "fetch", desc := "(I)Z" } : MethodName) ({ cls := "InSyncLog", name := "fetch", desc := "(I)Z" } : MethodName)) ∈ wsBig := wb2 (List.mem_of_getElem? (i := 51) rfl) rfl
theorem w292 : (Cond.code ({ cls := "InSyncLog", name := "fetch", desc := "(I)Z" } : MethodName) prog_1_method_6_code (3 : Nat) (Option.some FieldType.boolean)) ∈ wsBig := wb2 (List.mem_of_getElem? (i := 52) rfl) rfl
theorem w293 : (Cond.methodLink "InSyncLog" (76 : Nat) ({ cls := "InSyncLog", name := "isUp", desc := "(I)Z" } : MethodName)) ∈ wsBig := wb2 (List.mem_of_getElem? (i := 53) rfl) rfl
theorem w295 : (Cond.instanceMethod ({ cls := "InSyncLog", name := "isUp", desc := "(I)Z" } : MethodName)) ∈ wsBig := wb2 (List.mem_of_getElem? (i := 55) rfl) rfl
theorem w296 : (Cond.code ({ cls := "InSyncLog", name := "isUp", desc := "(I)Z" } : MethodName) prog_1_method_25_code (2 : Nat) (Option.some FieldType.boolean)) ∈ wsBig := wb2 (List.mem_of_getElem? (i := 56) rfl) rfl
theorem w297 : (Cond.methodLinkNest "InSyncLog" (96 : Nat) ({ cls := "InSyncLog$Log", name := "lastEpoch", desc := "()I" } : MethodName) "InSyncLog") ∈ xnl := wn2 (List.mem_of_getElem? (i := 57) rfl) rfl
theorem w299 : (Cond.instanceMethod ({ cls := "InSyncLog$Log", name := "lastEpoch", desc := "()I" } : MethodName)) ∈ wsBig := wb2 (List.mem_of_getElem? (i := 59) rfl) rfl
theorem w300 : (Cond.code ({ cls := "InSyncLog$Log", name := "lastEpoch", desc := "()I" } : MethodName) prog_5_method_8_code (1 : Nat) (Option.some FieldType.int)) ∈ wsBig := wb2 (List.mem_of_getElem? (i := 60) rfl) rfl
theorem w301 : (Cond.methodLink "InSyncLog$Log" (35 : Nat) ({ cls := "InSyncLog$Log", name := "epochOf", desc := "(I)I" } : MethodName)) ∈ wsBig := wb2 (List.mem_of_getElem? (i := 61) rfl) rfl
theorem w303 : (Cond.instanceMethod ({ cls := "InSyncLog$Log", name := "epochOf", desc := "(I)I" } : MethodName)) ∈ wsBig := wb2 (List.mem_of_getElem? (i := 63) rfl) rfl
theorem w304 : (Cond.code ({ cls := "InSyncLog$Log", name := "epochOf", desc := "(I)I" } : MethodName) prog_5_method_6_code (2 : Nat) (Option.some FieldType.int)) ∈ wsBig := wb2 (List.mem_of_getElem? (i := 64) rfl) rfl
theorem w305 : (Cond.methodLink "InSyncLog$Log" (30 : Nat) ({ cls := "java/lang/Math", name := "abs", desc := "(I)I" } : MethodName)) ∈ wsBig := wb2 (List.mem_of_getElem? (i := 65) rfl) rfl
theorem w306 : (Cond.static ({ cls := "java/lang/Math", name := "abs", desc := "(I)I" } : MethodName)) ∈ wsBig := wb2 (List.mem_of_getElem? (i := 66) rfl) rfl
theorem w307 : (Cond.code ({ cls := "java/lang/Math", name := "abs", desc := "(I)I" } : MethodName) prog_10_method_59_code (1 : Nat) (Option.some FieldType.int)) ∈ wsBig := wb2 (List.mem_of_getElem? (i := 67) rfl) rfl
theorem w308 : (Cond.methodLinkNest "InSyncLog" (100 : Nat) ({ cls := "InSyncLog$Channel", name := "send", desc := "(ILInSyncLog$Broker;IIII)LInSyncLog$Message;" } : MethodName) "InSyncLog") ∈ xnl := wn2 (List.mem_of_getElem? (i := 68) rfl) rfl
theorem w310 : (Cond.instanceMethod ({ cls := "InSyncLog$Channel", name := "send", desc := "(ILInSyncLog$Broker;IIII)LInSyncLog$Message;" } : MethodName)) ∈ wsBig := wb2 (List.mem_of_getElem? (i := 70) rfl) rfl
theorem w311 : (Cond.code ({ cls := "InSyncLog$Channel", name := "send", desc := "(ILInSyncLog$Broker;IIII)LInSyncLog$Message;" } : MethodName) prog_3_method_4_code (8 : Nat) (Option.some (FieldType.object "InSyncLog$Message"))) ∈ wsBig := wb2 (List.mem_of_getElem? (i := 71) rfl) rfl
theorem w312 : (Cond.methodLink "InSyncLogLaw" (44 : Nat) ({ cls := "InSyncLog", name := "deliver", desc := "(I)Z" } : MethodName)) ∈ wsBig := wb2 (List.mem_of_getElem? (i := 72) rfl) rfl
theorem w313 : (Cond.instanceMethod ({ cls := "InSyncLog", name := "deliver", desc := "(I)Z" } : MethodName)) ∈ wsBig := wb2 (List.mem_of_getElem? (i := 73) rfl) rfl
theorem w314 : (Cond.selects "InSyncLog" ({ cls := "InSyncLog", name := "deliver", desc := "(I)Z" } : MethodName) ({ cls := "InSyncLog", name := "deliver", desc := "(I)Z" } : MethodName)) ∈ wsBig := wb2 (List.mem_of_getElem? (i := 74) rfl) rfl
theorem w315 : (Cond.code ({ cls := "InSyncLog", name := "deliver", desc := "(I)Z" } : MethodName) prog_1_method_7_code (4 : Nat) (Option.some FieldType.boolean)) ∈ wsBig := wb2 (List.mem_of_getElem? (i := 75) rfl) rfl
theorem w316 : (Cond.methodLinkNest "InSyncLog" (104 : Nat) ({ cls := "InSyncLog$Channel", name := "take", desc := "(I)LInSyncLog$Message;" } : MethodName) "InSyncLog") ∈ xnl := wn2 (List.mem_of_getElem? (i := 76) rfl) rfl
theorem w318 : (Cond.instanceMethod ({ cls := "InSyncLog$Channel", name := "take", desc := "(I)LInSyncLog$Message;" } : MethodName)) ∈ wsBig := wb2 (List.mem_of_getElem? (i := 78) rfl) rfl
theorem w319 : (Cond.code ({ cls := "InSyncLog$Channel", name := "take", desc := "(I)LInSyncLog$Message;" } : MethodName) prog_3_method_3_code (4 : Nat) (Option.some (FieldType.object "InSyncLog$Message"))) ∈ wsBig := wb2 (List.mem_of_getElem? (i := 79) rfl) rfl
theorem w320 : (Cond.methodLink "InSyncLog$Channel" (22 : Nat) ({ cls := "InSyncLog$Channel", name := "has", desc := "(I)Z" } : MethodName)) ∈ wsBig := wb2 (List.mem_of_getElem? (i := 80) rfl) rfl
theorem w322 : (Cond.instanceMethod ({ cls := "InSyncLog$Channel", name := "has", desc := "(I)Z" } : MethodName)) ∈ wsBig := wb2 (List.mem_of_getElem? (i := 82) rfl) rfl
theorem w323 : (Cond.code ({ cls := "InSyncLog$Channel", name := "has", desc := "(I)Z" } : MethodName) prog_3_method_2_code (2 : Nat) (Option.some FieldType.boolean)) ∈ wsBig := wb2 (List.mem_of_getElem? (i := 83) rfl) rfl
theorem w324 : (Cond.methodLink "InSyncLog" (116 : Nat) ({ cls := "InSyncLog", name := "answer", desc := "(LInSyncLog$Broker;LInSyncLog$Message;)V" } : MethodName)) ∈ wsBig := wb2 (List.mem_of_getElem? (i := 84) rfl) rfl
theorem w326 : (Cond.instanceMethod ({ cls := "InSyncLog", name := "answer", desc := "(LInSyncLog$Broker;LInSyncLog$Message;)V" } : MethodName)) ∈ wsBig := wb2 (List.mem_of_getElem? (i := 86) rfl) rfl
theorem w327 : (Cond.code ({ cls := "InSyncLog", name := "answer", desc := "(LInSyncLog$Broker;LInSyncLog$Message;)V" } : MethodName) prog_1_method_28_code (3 : Nat) (Option.none : Option FieldType)) ∈ wsBig := wb2 (List.mem_of_getElem? (i := 87) rfl) rfl
theorem w328 : (Cond.methodLinkNest "InSyncLog" (206 : Nat) ({ cls := "InSyncLog$Log", name := "continues", desc := "(II)Z" } : MethodName) "InSyncLog") ∈ xnl := wn2 (List.mem_of_getElem? (i := 88) rfl) rfl
theorem w330 : (Cond.instanceMethod ({ cls := "InSyncLog$Log", name := "continues", desc := "(II)Z" } : MethodName)) ∈ wsBig := wb2 (List.mem_of_getElem? (i := 90) rfl) rfl
theorem w331 : (Cond.code ({ cls := "InSyncLog$Log", name := "continues", desc := "(II)Z" } : MethodName) prog_5_method_11_code (3 : Nat) (Option.some FieldType.boolean)) ∈ wsBig := wb2 (List.mem_of_getElem? (i := 91) rfl) rfl
theorem w332 : (Cond.methodLinkNest "InSyncLog" (212 : Nat) ({ cls := "InSyncLog$Broker", name := "noteFetched", desc := "(III)V" } : MethodName) "InSyncLog") ∈ xnl := wn2 (List.mem_of_getElem? (i := 92) rfl) rfl
theorem w334 : (Cond.instanceMethod ({ cls := "InSyncLog$Broker", name := "noteFetched", desc := "(III)V" } : MethodName)) ∈ wsBig := wb2 (List.mem_of_getElem? (i := 94) rfl) rfl
theorem w335 : (Cond.code ({ cls := "InSyncLog$Broker", name := "noteFetched", desc := "(III)V" } : MethodName) prog_2_method_6_code (4 : Nat) (Option.none : Option FieldType)) ∈ wsBig := wb2 (List.mem_of_getElem? (i := 95) rfl) rfl
theorem w336 : (Cond.methodLink "InSyncLog$Broker" (80 : Nat) ({ cls := "InSyncLog$Broker", name := "raiseHw", desc := "()V" } : MethodName)) ∈ wsBig := wb2 (List.mem_of_getElem? (i := 96) rfl) rfl
theorem w337 : (Cond.methodLink "InSyncLog" (216 : Nat) ({ cls := "InSyncLog", name := "sendBatch", desc := "(LInSyncLog$Broker;LInSyncLog$Message;)V" } : MethodName)) ∈ wsBig := wb2 (List.mem_of_getElem? (i := 97) rfl) rfl
theorem w339 : (Cond.instanceMethod ({ cls := "InSyncLog", name := "sendBatch", desc := "(LInSyncLog$Broker;LInSyncLog$Message;)V" } : MethodName)) ∈ wsBig := wb2 (List.mem_of_getElem? (i := 99) rfl) rfl
theorem w340 : (Cond.code ({ cls := "InSyncLog", name := "sendBatch", desc := "(LInSyncLog$Broker;LInSyncLog$Message;)V" } : MethodName) prog_1_method_30_code (5 : Nat) (Option.none : Option FieldType)) ∈ wsBig := wb2 (List.mem_of_getElem? (i := 100) rfl) rfl
theorem w341 : (Cond.methodLinkNest "InSyncLog" (231 : Nat) ({ cls := "InSyncLog$Message", name := "copyRecords", desc := "(LInSyncLog$Log;I)V" } : MethodName) "InSyncLog") ∈ xnl := wn2 (List.mem_of_getElem? (i := 101) rfl) rfl
theorem w343 : (Cond.instanceMethod ({ cls := "InSyncLog$Message", name := "copyRecords", desc := "(LInSyncLog$Log;I)V" } : MethodName)) ∈ wsBig := wb2 (List.mem_of_getElem? (i := 103) rfl) rfl
theorem w344 : (Cond.code ({ cls := "InSyncLog$Message", name := "copyRecords", desc := "(LInSyncLog$Log;I)V" } : MethodName) prog_6_method_3_code (4 : Nat) (Option.none : Option FieldType)) ∈ wsBig := wb2 (List.mem_of_getElem? (i := 104) rfl) rfl
theorem w345 : (Cond.methodLinkNest "InSyncLog$Message" (40 : Nat) ({ cls := "InSyncLog$Log", name := "stampOf", desc := "(I)I" } : MethodName) "InSyncLog") ∈ xnl := wn2 (List.mem_of_getElem? (i := 105) rfl) rfl
theorem w346 : (Cond.methodLinkNest "InSyncLog$Message" (46 : Nat) ({ cls := "InSyncLog$Log", name := "valueOf", desc := "(I)I" } : MethodName) "InSyncLog") ∈ xnl := wn2 (List.mem_of_getElem? (i := 106) rfl) rfl
theorem w347 : (Cond.methodLink "InSyncLog" (219 : Nat) ({ cls := "InSyncLog", name := "sendCut", desc := "(LInSyncLog$Broker;LInSyncLog$Message;)V" } : MethodName)) ∈ wsBig := wb2 (List.mem_of_getElem? (i := 107) rfl) rfl
theorem w349 : (Cond.instanceMethod ({ cls := "InSyncLog", name := "sendCut", desc := "(LInSyncLog$Broker;LInSyncLog$Message;)V" } : MethodName)) ∈ wsBig := wb2 (List.mem_of_getElem? (i := 109) rfl) rfl
theorem w350 : (Cond.code ({ cls := "InSyncLog", name := "sendCut", desc := "(LInSyncLog$Broker;LInSyncLog$Message;)V" } : MethodName) prog_1_method_29_code (4 : Nat) (Option.none : Option FieldType)) ∈ wsBig := wb2 (List.mem_of_getElem? (i := 110) rfl) rfl
theorem w351 : (Cond.methodLinkNest "InSyncLog" (222 : Nat) ({ cls := "InSyncLog$Log", name := "countUpTo", desc := "(I)I" } : MethodName) "InSyncLog") ∈ xnl := wn2 (List.mem_of_getElem? (i := 111) rfl) rfl
theorem w353 : (Cond.instanceMethod ({ cls := "InSyncLog$Log", name := "countUpTo", desc := "(I)I" } : MethodName)) ∈ wsBig := wb2 (List.mem_of_getElem? (i := 113) rfl) rfl
theorem w354 : (Cond.code ({ cls := "InSyncLog$Log", name := "countUpTo", desc := "(I)I" } : MethodName) prog_5_method_12_code (3 : Nat) (Option.some FieldType.int)) ∈ wsBig := wb2 (List.mem_of_getElem? (i := 114) rfl) rfl
theorem w355 : (Cond.methodLinkNest "InSyncLog" (228 : Nat) ({ cls := "InSyncLog$Log", name := "epochOf", desc := "(I)I" } : MethodName) "InSyncLog") ∈ xnl := wn2 (List.mem_of_getElem? (i := 115) rfl) rfl
theorem w356 : (Cond.methodLinkNest "InSyncLog" (120 : Nat) ({ cls := "InSyncLog$Broker", name := "accept", desc := "(LInSyncLog$Message;)V" } : MethodName) "InSyncLog") ∈ xnl := wn2 (List.mem_of_getElem? (i := 116) rfl) rfl
theorem w358 : (Cond.instanceMethod ({ cls := "InSyncLog$Broker", name := "accept", desc := "(LInSyncLog$Message;)V" } : MethodName)) ∈ wsBig := wb2 (List.mem_of_getElem? (i := 118) rfl) rfl
theorem w359 : (Cond.code ({ cls := "InSyncLog$Broker", name := "accept", desc := "(LInSyncLog$Message;)V" } : MethodName) prog_2_method_10_code (2 : Nat) (Option.none : Option FieldType)) ∈ wsBig := wb2 (List.mem_of_getElem? (i := 119) rfl) rfl
theorem w360 : (Cond.methodLink "InSyncLog$Broker" (94 : Nat) ({ cls := "InSyncLog$Broker", name := "isExpecting", desc := "(LInSyncLog$Message;)Z" } : MethodName)) ∈ wsBig := wb2 (List.mem_of_getElem? (i := 120) rfl) rfl
theorem w362 : (Cond.instanceMethod ({ cls := "InSyncLog$Broker", name := "isExpecting", desc := "(LInSyncLog$Message;)Z" } : MethodName)) ∈ wsBig := wb2 (List.mem_of_getElem? (i := 122) rfl) rfl
theorem w363 : (Cond.code ({ cls := "InSyncLog$Broker", name := "isExpecting", desc := "(LInSyncLog$Message;)Z" } : MethodName) prog_2_method_11_code (2 : Nat) (Option.some FieldType.boolean)) ∈ wsBig := wb2 (List.mem_of_getElem? (i := 123) rfl) rfl
theorem w364 : (Cond.methodLink "InSyncLog$Broker" (60 : Nat) ({ cls := "InSyncLog$Broker", name := "leads", desc := "()Z" } : MethodName)) ∈ wsBig := wb2 (List.mem_of_getElem? (i := 124) rfl) rfl
theorem w365 : (Cond.methodLinkNest "InSyncLog$Broker" (109 : Nat) ({ cls := "InSyncLog$Log", name := "countUpTo", desc := "(I)I" } : MethodName) "InSyncLog") ∈ xnl := wn2 (List.mem_of_getElem? (i := 125) rfl) rfl
theorem w366 : (Cond.methodLinkNest "InSyncLog$Broker" (113 : Nat) ({ cls := "InSyncLog$Log", name := "cutTo", desc := "(I)V" } : MethodName) "InSyncLog") ∈ xnl := wn2 (List.mem_of_getElem? (i := 126) rfl) rfl
theorem w368 : (Cond.instanceMethod ({ cls := "InSyncLog$Log", name := "cutTo", desc := "(I)V" } : MethodName)) ∈ wsBig := wb2 (List.mem_of_getElem? (i := 128) rfl) rfl
theorem w369 : (Cond.code ({ cls := "InSyncLog$Log", name := "cutTo", desc := "(I)V" } : MethodName) prog_5_method_10_code (2 : Nat) (Option.none : Option FieldType)) ∈ wsBig := wb2 (List.mem_of_getElem? (i := 129) rfl) rfl
theorem w370 : (Cond.methodLink "InSyncLog$Log" (42 : Nat) ({ cls := "java/lang/Math", name := "min", desc := "(II)I" } : MethodName)) ∈ wsBig := wb2 (List.mem_of_getElem? (i := 130) rfl) rfl
theorem w371 : (Cond.methodLinkNest "InSyncLog$Broker" (117 : Nat) ({ cls := "InSyncLog$Message", name := "appendRecords", desc := "(LInSyncLog$Log;)V" } : MethodName) "InSyncLog") ∈ xnl := wn2 (List.mem_of_getElem? (i := 131) rfl) rfl
theorem w373 : (Cond.instanceMethod ({ cls := "InSyncLog$Message", name := "appendRecords", desc := "(LInSyncLog$Log;)V" } : MethodName)) ∈ wsBig := wb2 (List.mem_of_getElem? (i := 133) rfl) rfl
theorem w374 : (Cond.code ({ cls := "InSyncLog$Message", name := "appendRecords", desc := "(LInSyncLog$Log;)V" } : MethodName) prog_6_method_4_code (3 : Nat) (Option.none : Option FieldType)) ∈ wsBig := wb2 (List.mem_of_getElem? (i := 134) rfl) rfl
theorem w375 : (Cond.methodLinkNest "InSyncLog$Message" (49 : Nat) ({ cls := "InSyncLog$Log", name := "add", desc := "(II)V" } : MethodName) "InSyncLog") ∈ xnl := wn2 (List.mem_of_getElem? (i := 135) rfl) rfl
theorem w376 : (Cond.methodLink "InSyncLogLaw" (48 : Nat) ({ cls := "InSyncLog", name := "lose", desc := "(I)Z" } : MethodName)) ∈ wsBig := wb2 (List.mem_of_getElem? (i := 136) rfl) rfl
theorem w377 : (Cond.instanceMethod ({ cls := "InSyncLog", name := "lose", desc := "(I)Z" } : MethodName)) ∈ wsBig := wb2 (List.mem_of_getElem? (i := 137) rfl) rfl
theorem w378 : (Cond.selects "InSyncLog" ({ cls := "InSyncLog", name := "lose", desc := "(I)Z" } : MethodName) ({ cls := "InSyncLog", name := "lose", desc := "(I)Z" } : MethodName)) ∈ wsBig := wb2 (List.mem_of_getElem? (i := 138) rfl) rfl
theorem w379 : (Cond.code ({ cls := "InSyncLog", name := "lose", desc := "(I)Z" } : MethodName) prog_1_method_8_code (2 : Nat) (Option.some FieldType.boolean)) ∈ wsBig := wb2 (List.mem_of_getElem? (i := 139) rfl) rfl
theorem w380 : (Cond.methodLink "InSyncLogLaw" (52 : Nat) ({ cls := "InSyncLog", name := "flight", desc := "()I" } : MethodName)) ∈ wsBig := wb2 (List.mem_of_getElem? (i := 140) rfl) rfl
theorem w381 : (Cond.instanceMethod ({ cls := "InSyncLog", name := "flight", desc := "()I" } : MethodName)) ∈ wsBig := wb2 (List.mem_of_getElem? (i := 141) rfl) rfl
theorem w382 : (Cond.selects "InSyncLog" ({ cls := "InSyncLog", name := "flight", desc := "()I" } : MethodName) ({ cls := "InSyncLog", name := "flight", desc := "()I" } : MethodName)) ∈ wsBig := wb2 (List.mem_of_getElem? (i := 142) rfl) rfl
theorem w383 : (Cond.code ({ cls := "InSyncLog", name := "flight", desc := "()I" } : MethodName) prog_1_method_9_code (1 : Nat) (Option.some FieldType.int)) ∈ wsBig := wb2 (List.mem_of_getElem? (i := 143) rfl) rfl
theorem w384 : (Cond.methodLink "InSyncLogLaw" (57 : Nat) ({ cls := "InSyncLog", name := "message", desc := "(II)I" } : MethodName)) ∈ wsBig := wb2 (List.mem_of_getElem? (i := 144) rfl) rfl
theorem w385 : (Cond.instanceMethod ({ cls := "InSyncLog", name := "message", desc := "(II)I" } : MethodName)) ∈ wsBig := wb2 (List.mem_of_getElem? (i := 145) rfl) rfl
theorem w386 : (Cond.selects "InSyncLog" ({ cls := "InSyncLog", name := "message", desc := "(II)I" } : MethodName) ({ cls := "InSyncLog", name := "message", desc := "(II)I" } : MethodName)) ∈ wsBig := wb2 (List.mem_of_getElem? (i := 146) rfl) rfl
theorem w387 : (Cond.code ({ cls := "InSyncLog", name := "message", desc := "(II)I" } : MethodName) prog_1_method_10_code (3 : Nat) (Option.some FieldType.int)) ∈ wsBig := wb2 (List.mem_of_getElem? (i := 147) rfl) rfl
theorem w388 : (Cond.methodLinkNest "InSyncLog" (127 : Nat) ({ cls := "InSyncLog$Channel", name := "has", desc := "(I)Z" } : MethodName) "InSyncLog") ∈ xnl := wn2 (List.mem_of_getElem? (i := 148) rfl) rfl
theorem w389 : (Cond.methodLinkNest "InSyncLog" (132 : Nat) ({ cls := "InSyncLog$Message", name := "word", desc := "(I)I" } : MethodName) "InSyncLog") ∈ xnl := wn2 (List.mem_of_getElem? (i := 149) rfl) rfl
theorem w391 : (Cond.instanceMethod ({ cls := "InSyncLog$Message", name := "word", desc := "(I)I" } : MethodName)) ∈ wsBig := wb2 (List.mem_of_getElem? (i := 151) rfl) rfl
theorem w392 : (Cond.code ({ cls := "InSyncLog$Message", name := "word", desc := "(I)I" } : MethodName) prog_6_method_2_code (2 : Nat) (Option.some FieldType.int)) ∈ wsBig := wb2 (List.mem_of_getElem? (i := 152) rfl) rfl
theorem w393 : (Cond.methodLink "InSyncLogLaw" (61 : Nat) ({ cls := "InSyncLog", name := "review", desc := "(I)I" } : MethodName)) ∈ wsBig := wb2 (List.mem_of_getElem? (i := 153) rfl) rfl
theorem w394 : (Cond.instanceMethod ({ cls := "InSyncLog", name := "review", desc := "(I)I" } : MethodName)) ∈ wsBig := wb2 (List.mem_of_getElem? (i := 154) rfl) rfl
theorem w395 : (Cond.selects "InSyncLog" ({ cls := "InSyncLog", name := "review", desc := "(I)I" } : MethodName) ({ cls := "InSyncLog", name := "review", desc := "(I)I" } : MethodName)) ∈ wsBig := wb2 (List.mem_of_getElem? (i := 155) rfl) rfl
theorem w396 : (Cond.code ({ cls := "InSyncLog", name := "review", desc := "(I)I" } : MethodName) prog_1_method_11_code (3 : Nat) (Option.some FieldType.int)) ∈ wsBig := wb2 (List.mem_of_getElem? (i := 156) rfl) rfl
theorem w397 : (Cond.methodLinkNest "InSyncLog" (139 : Nat) ({ cls := "InSyncLog$Broker", name := "replicasInSync", desc := "(II)I" } : MethodName) "InSyncLog") ∈ xnl := wn2 (List.mem_of_getElem? (i := 157) rfl) rfl
theorem w399 : (Cond.instanceMethod ({ cls := "InSyncLog$Broker", name := "replicasInSync", desc := "(II)I" } : MethodName)) ∈ wsBig := wb2 (List.mem_of_getElem? (i := 159) rfl) rfl
theorem w400 : (Cond.code ({ cls := "InSyncLog$Broker", name := "replicasInSync", desc := "(II)I" } : MethodName) prog_2_method_8_code (6 : Nat) (Option.some FieldType.int)) ∈ wsBig := wb2 (List.mem_of_getElem? (i := 160) rfl) rfl
theorem w401 : (Cond.methodLink "InSyncLog$Broker" (90 : Nat) ({ cls := "InSyncLog$Broker", name := "hasFetchedEnough", desc := "(I)Z" } : MethodName)) ∈ wsBig := wb2 (List.mem_of_getElem? (i := 161) rfl) rfl
theorem w403 : (Cond.instanceMethod ({ cls := "InSyncLog$Broker", name := "hasFetchedEnough", desc := "(I)Z" } : MethodName)) ∈ wsBig := wb2 (List.mem_of_getElem? (i := 163) rfl) rfl
theorem w404 : (Cond.code ({ cls := "InSyncLog$Broker", name := "hasFetchedEnough", desc := "(I)Z" } : MethodName) prog_2_method_9_code (2 : Nat) (Option.some FieldType.boolean)) ∈ wsBig := wb2 (List.mem_of_getElem? (i := 164) rfl) rfl
theorem w405 : (Cond.methodLink "InSyncLogLaw" (65 : Nat) ({ cls := "InSyncLog", name := "learn", desc := "(I)Z" } : MethodName)) ∈ wsBig := wb2 (List.mem_of_getElem? (i := 165) rfl) rfl
theorem w406 : (Cond.instanceMethod ({ cls := "InSyncLog", name := "learn", desc := "(I)Z" } : MethodName)) ∈ wsBig := wb2 (List.mem_of_getElem? (i := 166) rfl) rfl
theorem w407 : (Cond.selects "InSyncLog" ({ cls := "InSyncLog", name := "learn", desc := "(I)Z" } : MethodName) ({ cls := "InSyncLog", name := "learn", desc := "(I)Z" } : MethodName)) ∈ wsBig := wb2 (List.mem_of_getElem? (i := 167) rfl) rfl
theorem w408 : (Cond.code ({ cls := "InSyncLog", name := "learn", desc := "(I)Z" } : MethodName) prog_1_method_12_code (2 : Nat) (Option.some FieldType.boolean)) ∈ wsBig := wb2 (List.mem_of_getElem? (i := 168) rfl) rfl
theorem w409 : (Cond.methodLinkNest "InSyncLog" (152 : Nat) ({ cls := "InSyncLog$Broker", name := "adopt", desc := "(LInSyncLog$Controller;I)V" } : MethodName) "InSyncLog") ∈ xnl := wn2 (List.mem_of_getElem? (i := 169) rfl) rfl
theorem w411 : (Cond.instanceMethod ({ cls := "InSyncLog$Broker", name := "adopt", desc := "(LInSyncLog$Controller;I)V" } : MethodName)) ∈ wsBig := wb2 (List.mem_of_getElem? (i := 171) rfl) rfl
theorem w412 : (Cond.code ({ cls := "InSyncLog$Broker", name := "adopt", desc := "(LInSyncLog$Controller;I)V" } : MethodName) prog_2_method_4_code (3 : Nat) (Option.none : Option FieldType)) ∈ wsBig := wb2 (List.mem_of_getElem? (i := 172) rfl) rfl
theorem w413 : (Cond.methodLink "InSyncLogLaw" (69 : Nat) ({ cls := "InSyncLog", name := "crash", desc := "(I)Z" } : MethodName)) ∈ wsBig := wb2 (List.mem_of_getElem? (i := 173) rfl) rfl
theorem w414 : (Cond.instanceMethod ({ cls := "InSyncLog", name := "crash", desc := "(I)Z" } : MethodName)) ∈ wsBig := wb2 (List.mem_of_getElem? (i := 174) rfl) rfl
theorem w415 : (Cond.selects "InSyncLog" ({ cls := "InSyncLog", name := "crash", desc := "(I)Z" } : MethodName) ({ cls := "InSyncLog", name := "crash", desc := "(I)Z" } : MethodName)) ∈ wsBig := wb2 (List.mem_of_getElem? (i := 175) rfl) rfl
theorem w416 : (Cond.code ({ cls := "InSyncLog", name := "crash", desc := "(I)Z" } : MethodName) prog_1_method_13_code (2 : Nat) (Option.some FieldType.boolean)) ∈ wsBig := wb2 (List.mem_of_getElem? (i := 176) rfl) rfl
theorem w417 : (Cond.methodLinkNest "InSyncLog" (156 : Nat) ({ cls := "InSyncLog$Broker", name := "goDown", desc := "()V" } : MethodName) "InSyncLog") ∈ xnl := wn2 (List.mem_of_getElem? (i := 177) rfl) rfl
theorem w419 : (Cond.instanceMethod ({ cls := "InSyncLog$Broker", name := "goDown", desc := "()V" } : MethodName)) ∈ wsBig := wb2 (List.mem_of_getElem? (i := 179) rfl) rfl
theorem w420 : (Cond.code ({ cls := "InSyncLog$Broker", name := "goDown", desc := "()V" } : MethodName) prog_2_method_5_code (1 : Nat) (Option.none : Option FieldType)) ∈ wsBig := wb2 (List.mem_of_getElem? (i := 180) rfl) rfl
theorem w421 : (Cond.methodLink "InSyncLogLaw" (73 : Nat) ({ cls := "InSyncLog", name := "restart", desc := "(I)Z" } : MethodName)) ∈ wsBig := wb2 (List.mem_of_getElem? (i := 181) rfl) rfl
theorem w422 : (Cond.instanceMethod ({ cls := "InSyncLog", name := "restart", desc := "(I)Z" } : MethodName)) ∈ wsBig := wb2 (List.mem_of_getElem? (i := 182) rfl) rfl
theorem w423 : (Cond.selects "InSyncLog" ({ cls := "InSyncLog", name := "restart", desc := "(I)Z" } : MethodName) ({ cls := "InSyncLog", name := "restart", desc := "(I)Z" } : MethodName)) ∈ wsBig := wb2 (List.mem_of_getElem? (i := 183) rfl) rfl
theorem w424 : (Cond.code ({ cls := "InSyncLog", name := "restart", desc := "(I)Z" } : MethodName) prog_1_method_14_code (2 : Nat) (Option.some FieldType.boolean)) ∈ wsBig := wb2 (List.mem_of_getElem? (i := 184) rfl) rfl
theorem w425 : (Cond.methodLink "InSyncLogLaw" (77 : Nat) ({ cls := "InSyncLog", name := "govern", desc := "(I)Z" } : MethodName)) ∈ wsBig := wb2 (List.mem_of_getElem? (i := 185) rfl) rfl
theorem w426 : (Cond.instanceMethod ({ cls := "InSyncLog", name := "govern", desc := "(I)Z" } : MethodName)) ∈ wsBig := wb2 (List.mem_of_getElem? (i := 186) rfl) rfl
theorem w427 : (Cond.selects "InSyncLog" ({ cls := "InSyncLog", name := "govern", desc := "(I)Z" } : MethodName) ({ cls := "InSyncLog", name := "govern", desc := "(I)Z" } : MethodName)) ∈ wsBig := wb2 (List.mem_of_getElem? (i := 187) rfl) rfl
theorem w428 : (Cond.code ({ cls := "InSyncLog", name := "govern", desc := "(I)Z" } : MethodName) prog_1_method_15_code (4 : Nat) (Option.some FieldType.boolean)) ∈ wsBig := wb2 (List.mem_of_getElem? (i := 188) rfl) rfl
theorem w429 : (Cond.methodLink "InSyncLog" (165 : Nat) ({ cls := "InSyncLog", name := "contains", desc := "(II)Z" } : MethodName)) ∈ wsBig := wb2 (List.mem_of_getElem? (i := 189) rfl) rfl
theorem w430 : (Cond.methodLinkNest "InSyncLog" (169 : Nat) ({ cls := "InSyncLog$Controller", name := "reactTo", desc := "(I)Z" } : MethodName) "InSyncLog") ∈ xnl := wn2 (List.mem_of_getElem? (i := 190) rfl) rfl
theorem w432 : (Cond.instanceMethod ({ cls := "InSyncLog$Controller", name := "reactTo", desc := "(I)Z" } : MethodName)) ∈ wsBig := wb2 (List.mem_of_getElem? (i := 192) rfl) rfl
theorem w433 : (Cond.code ({ cls := "InSyncLog$Controller", name := "reactTo", desc := "(I)Z" } : MethodName) prog_4_method_2_code (4 : Nat) (Option.some FieldType.boolean)) ∈ wsBig := wb2 (List.mem_of_getElem? (i := 193) rfl) rfl
theorem w434 : (Cond.methodLinkNest "InSyncLog$Controller" (21 : Nat) ({ cls := "InSyncLog", name := "contains", desc := "(II)Z" } : MethodName) "InSyncLog") ∈ xnl := wn2 (List.mem_of_getElem? (i := 194) rfl) rfl
theorem w435 : (Cond.methodLink "InSyncLog$Controller" (25 : Nat) ({ cls := "InSyncLog$Controller", name := "begin", desc := "(II)Z" } : MethodName)) ∈ wsBig := wb2 (List.mem_of_getElem? (i := 195) rfl) rfl
theorem w437 : (Cond.instanceMethod ({ cls := "InSyncLog$Controller", name := "begin", desc := "(II)Z" } : MethodName)) ∈ wsBig := wb2 (List.mem_of_getElem? (i := 197) rfl) rfl
theorem w438 : (Cond.code ({ cls := "InSyncLog$Controller", name := "begin", desc := "(II)Z" } : MethodName) prog_4_method_3_code (3 : Nat) (Option.some FieldType.boolean)) ∈ wsBig := wb2 (List.mem_of_getElem? (i := 198) rfl) rfl
theorem w439 : (Cond.methodLinkNest "InSyncLog$Controller" (28 : Nat) ({ cls := "InSyncLog", name := "leastOf", desc := "(I)I" } : MethodName) "InSyncLog") ∈ xnl := wn2 (List.mem_of_getElem? (i := 199) rfl) rfl
theorem w440 : (Cond.static ({ cls := "InSyncLog", name := "leastOf", desc := "(I)I" } : MethodName)) ∈ wsBig := wb2 (List.mem_of_getElem? (i := 200) rfl) rfl
theorem w441 : (Cond.code ({ cls := "InSyncLog", name := "leastOf", desc := "(I)I" } : MethodName) prog_1_method_24_code (2 : Nat) (Option.some FieldType.int)) ∈ wsBig := wb2 (List.mem_of_getElem? (i := 201) rfl) rfl
theorem w442 : (Cond.methodLink "InSyncLogLaw" (81 : Nat) ({ cls := "InSyncLog", name := "tick", desc := "(I)Z" } : MethodName)) ∈ wsBig := wb2 (List.mem_of_getElem? (i := 202) rfl) rfl
theorem w443 : (Cond.instanceMethod ({ cls := "InSyncLog", name := "tick", desc := "(I)Z" } : MethodName)) ∈ wsBig := wb2 (List.mem_of_getElem? (i := 203) rfl) rfl
theorem w444 : (Cond.selects "InSyncLog" ({ cls := "InSyncLog", name := "tick", desc := "(I)Z" } : MethodName) ({ cls := "InSyncLog", name := "tick", desc := "(I)Z" } : MethodName)) ∈ wsBig := wb2 (List.mem_of_getElem? (i := 204) rfl) rfl
theorem w445 : (Cond.code ({ cls := "InSyncLog", name := "tick", desc := "(I)Z" } : MethodName) prog_1_method_16_code (2 : Nat) (Option.some FieldType.boolean)) ∈ wsBig := wb2 (List.mem_of_getElem? (i := 205) rfl) rfl
theorem w446 : (Cond.methodLink "InSyncLogLaw" (85 : Nat) ({ cls := "InSyncLog", name := "controller", desc := "(I)I" } : MethodName)) ∈ wsBig := wb2 (List.mem_of_getElem? (i := 206) rfl) rfl
theorem w447 : (Cond.instanceMethod ({ cls := "InSyncLog", name := "controller", desc := "(I)I" } : MethodName)) ∈ wsBig := wb2 (List.mem_of_getElem? (i := 207) rfl) rfl
theorem w448 : (Cond.selects "InSyncLog" ({ cls := "InSyncLog", name := "controller", desc := "(I)I" } : MethodName) ({ cls := "InSyncLog", name := "controller", desc := "(I)I" } : MethodName)) ∈ wsBig := wb2 (List.mem_of_getElem? (i := 208) rfl) rfl
theorem w449 : (Cond.code ({ cls := "InSyncLog", name := "controller", desc := "(I)I" } : MethodName) prog_1_method_17_code (2 : Nat) (Option.some FieldType.int)) ∈ wsBig := wb2 (List.mem_of_getElem? (i := 209) rfl) rfl
theorem w450 : (Cond.methodLink "InSyncLogLaw" (89 : Nat) ({ cls := "InSyncLog", name := "broker", desc := "(II)I" } : MethodName)) ∈ wsBig := wb2 (List.mem_of_getElem? (i := 210) rfl) rfl
theorem w451 : (Cond.instanceMethod ({ cls := "InSyncLog", name := "broker", desc := "(II)I" } : MethodName)) ∈ wsBig := wb2 (List.mem_of_getElem? (i := 211) rfl) rfl
theorem w452 : (Cond.selects "InSyncLog" ({ cls := "InSyncLog", name := "broker", desc := "(II)I" } : MethodName) ({ cls := "InSyncLog", name := "broker", desc := "(II)I" } : MethodName)) ∈ wsBig := wb2 (List.mem_of_getElem? (i := 212) rfl) rfl
theorem w453 : (Cond.code ({ cls := "InSyncLog", name := "broker", desc := "(II)I" } : MethodName) prog_1_method_18_code (3 : Nat) (Option.some FieldType.int)) ∈ wsBig := wb2 (List.mem_of_getElem? (i := 213) rfl) rfl
theorem w454 : (Cond.methodLinkNest "InSyncLog" (173 : Nat) ({ cls := "InSyncLog$Broker", name := "fact", desc := "(I)I" } : MethodName) "InSyncLog") ∈ xnl := wn2 (List.mem_of_getElem? (i := 214) rfl) rfl
theorem w456 : (Cond.instanceMethod ({ cls := "InSyncLog$Broker", name := "fact", desc := "(I)I" } : MethodName)) ∈ wsBig := wb2 (List.mem_of_getElem? (i := 216) rfl) rfl
theorem w457 : (Cond.code ({ cls := "InSyncLog$Broker", name := "fact", desc := "(I)I" } : MethodName) prog_2_method_3_code (2 : Nat) (Option.some FieldType.int)) ∈ wsBig := wb2 (List.mem_of_getElem? (i := 217) rfl) rfl
theorem w458 : (Cond.methodLink "InSyncLogLaw" (93 : Nat) ({ cls := "InSyncLog", name := "epochAt", desc := "(II)I" } : MethodName)) ∈ wsBig := wb2 (List.mem_of_getElem? (i := 218) rfl) rfl
theorem w459 : (Cond.instanceMethod ({ cls := "InSyncLog", name := "epochAt", desc := "(II)I" } : MethodName)) ∈ wsBig := wb2 (List.mem_of_getElem? (i := 219) rfl) rfl
theorem w460 : (Cond.selects "InSyncLog" ({ cls := "InSyncLog", name := "epochAt", desc := "(II)I" } : MethodName) ({ cls := "InSyncLog", name := "epochAt", desc := "(II)I" } : MethodName)) ∈ wsBig := wb2 (List.mem_of_getElem? (i := 220) rfl) rfl
theorem w461 : (Cond.code ({ cls := "InSyncLog", name := "epochAt", desc := "(II)I" } : MethodName) prog_1_method_19_code (3 : Nat) (Option.some FieldType.int)) ∈ wsBig := wb2 (List.mem_of_getElem? (i := 221) rfl) rfl
theorem w462 : (Cond.methodLinkNest "InSyncLog" (176 : Nat) ({ cls := "InSyncLog$Log", name := "stampOf", desc := "(I)I" } : MethodName) "InSyncLog") ∈ xnl := wn2 (List.mem_of_getElem? (i := 222) rfl) rfl
theorem w463 : (Cond.methodLink "InSyncLogLaw" (97 : Nat) ({ cls := "InSyncLog", name := "valueAt", desc := "(II)I" } : MethodName)) ∈ wsBig := wb2 (List.mem_of_getElem? (i := 223) rfl) rfl
theorem w464 : (Cond.instanceMethod ({ cls := "InSyncLog", name := "valueAt", desc := "(II)I" } : MethodName)) ∈ wsBig := wb2 (List.mem_of_getElem? (i := 224) rfl) rfl
theorem w465 : (Cond.selects "InSyncLog" ({ cls := "InSyncLog", name := "valueAt", desc := "(II)I" } : MethodName) ({ cls := "InSyncLog", name := "valueAt", desc := "(II)I" } : MethodName)) ∈ wsBig := wb2 (List.mem_of_getElem? (i := 225) rfl) rfl
theorem w466 : (Cond.code ({ cls := "InSyncLog", name := "valueAt", desc := "(II)I" } : MethodName) prog_1_method_20_code (3 : Nat) (Option.some FieldType.int)) ∈ wsBig := wb2 (List.mem_of_getElem? (i := 226) rfl) rfl
theorem w467 : (Cond.methodLink "InSyncLogLaw" (9 : Nat) ({ cls := "InSyncLogLaw", name := "cell", desc := "([II)I" } : MethodName)) ∈ wsBig := wb2 (List.mem_of_getElem? (i := 227) rfl) rfl
theorem w468 : (Cond.static ({ cls := "InSyncLogLaw", name := "cell", desc := "([II)I" } : MethodName)) ∈ wsBig := wb2 (List.mem_of_getElem? (i := 228) rfl) rfl
theorem w469 : (Cond.code ({ cls := "InSyncLogLaw", name := "cell", desc := "([II)I" } : MethodName) method_2_code (2 : Nat) (Option.some FieldType.int)) ∈ wsBig := wb2 (List.mem_of_getElem? (i := 229) rfl) rfl
theorem w470 : (Cond.classLink "InSyncLogLaw" (18 : Nat) "InSyncLogModel") ∈ wsBig := wb2 (List.mem_of_getElem? (i := 230) rfl) rfl
theorem w471 : (Cond.instantiable "InSyncLogModel" (34 : Nat)) ∈ wsBig := wb2 (List.mem_of_getElem? (i := 231) rfl) rfl
theorem w472 : (Cond.methodLink "InSyncLogLaw" (20 : Nat) ({ cls := "InSyncLogModel", name := "<init>", desc := "(III)V" } : MethodName)) ∈ wsBig := wb2 (List.mem_of_getElem? (i := 232) rfl) rfl
theorem w473 : (Cond.instanceMethod ({ cls := "InSyncLogModel", name := "<init>", desc := "(III)V" } : MethodName)) ∈ wsBig := wb2 (List.mem_of_getElem? (i := 233) rfl) rfl
theorem w474 : (Cond.code ({ cls := "InSyncLogModel", name := "<init>", desc := "(III)V" } : MethodName) prog_8_method_1_code (5 : Nat) (Option.none : Option FieldType)) ∈ wsBig := wb2 (List.mem_of_getElem? (i := 234) rfl) rfl
theorem w475 : (Cond.methodLink "InSyncLogModel" (1 : Nat) ({ cls := "java/lang/Object", name := "<init>", desc := "()V" } : MethodName)) ∈ wsBig := wb2 (List.mem_of_getElem? (i := 235) rfl) rfl
theorem w476 : (Cond.methodLink "InSyncLogModel" (102 : Nat) ({ cls := "InSyncLogModel", name := "takeOver", desc := "(I)V" } : MethodName)) ∈ wsBig := wb2 (List.mem_of_getElem? (i := 236) rfl) rfl
theorem w478 : (Cond.instanceMethod ({ cls := "InSyncLogModel", name := "takeOver", desc := "(I)V" } : MethodName)) ∈ wsBig := wb2 (List.mem_of_getElem? (i := 238) rfl) rfl
theorem w479 : (Cond.code ({ cls := "InSyncLogModel", name := "takeOver", desc := "(I)V" } : MethodName) prog_8_method_4_code (3 : Nat) (Option.none : Option FieldType)) ∈ wsBig := wb2 (List.mem_of_getElem? (i := 239) rfl) rfl
theorem w480 : (Cond.fieldLink "InSyncLogModel" (93 : Nat) "InSyncLogModel" "lag" "I") ∈ wsBig := wb3 (List.mem_of_getElem? (i := 0) rfl) rfl
theorem w481 : (Cond.fieldLink "InSyncLogModel" (96 : Nat) "InSyncLogModel" "batch" "I") ∈ wsBig := wb3 (List.mem_of_getElem? (i := 1) rfl) rfl
theorem w482 : (Cond.fieldLink "InSyncLogModel" (99 : Nat) "InSyncLogModel" "least" "I") ∈ wsBig := wb3 (List.mem_of_getElem? (i := 2) rfl) rfl
theorem w483 : (Cond.fieldLink "InSyncLogModel" (110 : Nat) "InSyncLogModel" "time" "I") ∈ wsBig := wb3 (List.mem_of_getElem? (i := 3) rfl) rfl
theorem w484 : (Cond.fieldLink "InSyncLogModel" (7 : Nat) "InSyncLogModel" "epoch" "I") ∈ wsBig := wb3 (List.mem_of_getElem? (i := 4) rfl) rfl
theorem w485 : (Cond.fieldLink "InSyncLogModel" (174 : Nat) "InSyncLogModel" "leader" "I") ∈ wsBig := wb3 (List.mem_of_getElem? (i := 5) rfl) rfl
theorem w486 : (Cond.fieldLink "InSyncLogModel" (13 : Nat) "InSyncLogModel" "inSync" "[Z") ∈ wsBig := wb3 (List.mem_of_getElem? (i := 6) rfl) rfl
theorem w487 : (Cond.fieldLink "InSyncLogModel" (117 : Nat) "InSyncLogModel" "records" "I") ∈ wsBig := wb3 (List.mem_of_getElem? (i := 7) rfl) rfl
theorem w488 : (Cond.fieldLink "InSyncLogModel" (17 : Nat) "InSyncLogModel" "before" "[I") ∈ wsBig := wb3 (List.mem_of_getElem? (i := 8) rfl) rfl
theorem w489 : (Cond.fieldLink "InSyncLogModel" (21 : Nat) "InSyncLogModel" "depth" "[I") ∈ wsBig := wb3 (List.mem_of_getElem? (i := 9) rfl) rfl
theorem w490 : (Cond.fieldLink "InSyncLogModel" (24 : Nat) "InSyncLogModel" "recordEpoch" "[I") ∈ wsBig := wb3 (List.mem_of_getElem? (i := 10) rfl) rfl
theorem w491 : (Cond.fieldLink "InSyncLogModel" (27 : Nat) "InSyncLogModel" "recordValue" "[I") ∈ wsBig := wb3 (List.mem_of_getElem? (i := 11) rfl) rfl
theorem w492 : (Cond.fieldLink "InSyncLogModel" (30 : Nat) "InSyncLogModel" "recordMark" "[Z") ∈ wsBig := wb3 (List.mem_of_getElem? (i := 12) rfl) rfl
theorem w493 : (Cond.fieldLink "InSyncLogModel" (33 : Nat) "InSyncLogModel" "last" "[I") ∈ wsBig := wb3 (List.mem_of_getElem? (i := 13) rfl) rfl
theorem w494 : (Cond.fieldLink "InSyncLogModel" (36 : Nat) "InSyncLogModel" "high" "[I") ∈ wsBig := wb3 (List.mem_of_getElem? (i := 14) rfl) rfl
theorem w495 : (Cond.fieldLink "InSyncLogModel" (39 : Nat) "InSyncLogModel" "up" "[Z") ∈ wsBig := wb3 (List.mem_of_getElem? (i := 15) rfl) rfl
theorem w496 : (Cond.fieldLink "InSyncLogModel" (42 : Nat) "InSyncLogModel" "knownEpoch" "[I") ∈ wsBig := wb3 (List.mem_of_getElem? (i := 16) rfl) rfl
theorem w497 : (Cond.fieldLink "InSyncLogModel" (45 : Nat) "InSyncLogModel" "knownLeader" "[I") ∈ wsBig := wb3 (List.mem_of_getElem? (i := 17) rfl) rfl
theorem w498 : (Cond.fieldLink "InSyncLogModel" (48 : Nat) "InSyncLogModel" "latest" "[I") ∈ wsBig := wb3 (List.mem_of_getElem? (i := 18) rfl) rfl
theorem w499 : (Cond.fieldLink "InSyncLogModel" (51 : Nat) "InSyncLogModel" "awaited" "[Z") ∈ wsBig := wb3 (List.mem_of_getElem? (i := 19) rfl) rfl
theorem w500 : (Cond.fieldLink "InSyncLogModel" (54 : Nat) "InSyncLogModel" "sync" "[Z") ∈ wsBig := wb3 (List.mem_of_getElem? (i := 20) rfl) rfl
theorem w501 : (Cond.fieldLink "InSyncLogModel" (57 : Nat) "InSyncLogModel" "fetched" "[I") ∈ wsBig := wb3 (List.mem_of_getElem? (i := 21) rfl) rfl
theorem w502 : (Cond.fieldLink "InSyncLogModel" (60 : Nat) "InSyncLogModel" "caught" "[I") ∈ wsBig := wb3 (List.mem_of_getElem? (i := 22) rfl) rfl
theorem w503 : (Cond.fieldLink "InSyncLogModel" (63 : Nat) "InSyncLogModel" "start" "[I") ∈ wsBig := wb3 (List.mem_of_getElem? (i := 23) rfl) rfl
theorem w504 : (Cond.fieldLink "InSyncLogModel" (137 : Nat) "InSyncLogModel" "count" "I") ∈ wsBig := wb3 (List.mem_of_getElem? (i := 24) rfl) rfl
theorem w505 : (Cond.fieldLink "InSyncLogModel" (66 : Nat) "InSyncLogModel" "kind" "[I") ∈ wsBig := wb3 (List.mem_of_getElem? (i := 25) rfl) rfl
theorem w506 : (Cond.fieldLink "InSyncLogModel" (69 : Nat) "InSyncLogModel" "from" "[I") ∈ wsBig := wb3 (List.mem_of_getElem? (i := 26) rfl) rfl
theorem w507 : (Cond.fieldLink "InSyncLogModel" (72 : Nat) "InSyncLogModel" "to" "[I") ∈ wsBig := wb3 (List.mem_of_getElem? (i := 27) rfl) rfl
theorem w508 : (Cond.fieldLink "InSyncLogModel" (75 : Nat) "InSyncLogModel" "bears" "[I") ∈ wsBig := wb3 (List.mem_of_getElem? (i := 28) rfl) rfl
theorem w509 : (Cond.fieldLink "InSyncLogModel" (78 : Nat) "InSyncLogModel" "number" "[I") ∈ wsBig := wb3 (List.mem_of_getElem? (i := 29) rfl) rfl
theorem w510 : (Cond.fieldLink "InSyncLogModel" (81 : Nat) "InSyncLogModel" "five" "[I") ∈ wsBig := wb3 (List.mem_of_getElem? (i := 30) rfl) rfl
theorem w511 : (Cond.fieldLink "InSyncLogModel" (84 : Nat) "InSyncLogModel" "six" "[I") ∈ wsBig := wb3 (List.mem_of_getElem? (i := 31) rfl) rfl
theorem w512 : (Cond.fieldLink "InSyncLogModel" (87 : Nat) "InSyncLogModel" "load" "[I") ∈ wsBig := wb3 (List.mem_of_getElem? (i := 32) rfl) rfl
theorem w513 : (Cond.fieldLink "InSyncLogModel" (90 : Nat) "InSyncLogModel" "now" "[I") ∈ wsBig := wb3 (List.mem_of_getElem? (i := 33) rfl) rfl
theorem w514 : (Cond.laysFinal "InSyncLogModel" "InSyncLogModel" "lag" "I") ∈ wsBig := wb3 (List.mem_of_getElem? (i := 34) rfl) rfl
theorem w516 : (Cond.laysFinal "InSyncLogModel" "InSyncLogModel" "batch" "I") ∈ wsBig := wb3 (List.mem_of_getElem? (i := 36) rfl) rfl
theorem w518 : (Cond.laysFinal "InSyncLogModel" "InSyncLogModel" "least" "I") ∈ wsBig := wb3 (List.mem_of_getElem? (i := 38) rfl) rfl
theorem w520 : (Cond.lays "InSyncLogModel" "InSyncLogModel" "time" "I") ∈ wsBig := wb3 (List.mem_of_getElem? (i := 40) rfl) rfl
theorem w522 : (Cond.lays "InSyncLogModel" "InSyncLogModel" "epoch" "I") ∈ wsBig := wb3 (List.mem_of_getElem? (i := 42) rfl) rfl
theorem w524 : (Cond.lays "InSyncLogModel" "InSyncLogModel" "leader" "I") ∈ wsBig := wb3 (List.mem_of_getElem? (i := 44) rfl) rfl
theorem w526 : (Cond.laysFinal "InSyncLogModel" "InSyncLogModel" "inSync" "[Z") ∈ wsBig := wb3 (List.mem_of_getElem? (i := 46) rfl) rfl
theorem w528 : (Cond.lays "InSyncLogModel" "InSyncLogModel" "records" "I") ∈ wsBig := wb3 (List.mem_of_getElem? (i := 48) rfl) rfl
theorem w530 : (Cond.laysFinal "InSyncLogModel" "InSyncLogModel" "before" "[I") ∈ wsBig := wb3 (List.mem_of_getElem? (i := 50) rfl) rfl
theorem w532 : (Cond.laysFinal "InSyncLogModel" "InSyncLogModel" "depth" "[I") ∈ wsBig := wb3 (List.mem_of_getElem? (i := 52) rfl) rfl
theorem w534 : (Cond.laysFinal "InSyncLogModel" "InSyncLogModel" "recordEpoch" "[I") ∈ wsBig := wb3 (List.mem_of_getElem? (i := 54) rfl) rfl
theorem w536 : (Cond.laysFinal "InSyncLogModel" "InSyncLogModel" "recordValue" "[I") ∈ wsBig := wb3 (List.mem_of_getElem? (i := 56) rfl) rfl
theorem w538 : (Cond.laysFinal "InSyncLogModel" "InSyncLogModel" "recordMark" "[Z") ∈ wsBig := wb3 (List.mem_of_getElem? (i := 58) rfl) rfl
theorem w540 : (Cond.laysFinal "InSyncLogModel" "InSyncLogModel" "last" "[I") ∈ wsBig := wb3 (List.mem_of_getElem? (i := 60) rfl) rfl
theorem w542 : (Cond.laysFinal "InSyncLogModel" "InSyncLogModel" "high" "[I") ∈ wsBig := wb3 (List.mem_of_getElem? (i := 62) rfl) rfl
theorem w544 : (Cond.laysFinal "InSyncLogModel" "InSyncLogModel" "up" "[Z") ∈ wsBig := wb3 (List.mem_of_getElem? (i := 64) rfl) rfl
theorem w546 : (Cond.laysFinal "InSyncLogModel" "InSyncLogModel" "knownEpoch" "[I") ∈ wsBig := wb3 (List.mem_of_getElem? (i := 66) rfl) rfl
theorem w548 : (Cond.laysFinal "InSyncLogModel" "InSyncLogModel" "knownLeader" "[I") ∈ wsBig := wb3 (List.mem_of_getElem? (i := 68) rfl) rfl
theorem w550 : (Cond.laysFinal "InSyncLogModel" "InSyncLogModel" "latest" "[I") ∈ wsBig := wb3 (List.mem_of_getElem? (i := 70) rfl) rfl
theorem w552 : (Cond.laysFinal "InSyncLogModel" "InSyncLogModel" "awaited" "[Z") ∈ wsBig := wb3 (List.mem_of_getElem? (i := 72) rfl) rfl
theorem w554 : (Cond.laysFinal "InSyncLogModel" "InSyncLogModel" "sync" "[Z") ∈ wsBig := wb3 (List.mem_of_getElem? (i := 74) rfl) rfl
theorem w556 : (Cond.laysFinal "InSyncLogModel" "InSyncLogModel" "fetched" "[I") ∈ wsBig := wb3 (List.mem_of_getElem? (i := 76) rfl) rfl
theorem w558 : (Cond.laysFinal "InSyncLogModel" "InSyncLogModel" "caught" "[I") ∈ wsBig := wb3 (List.mem_of_getElem? (i := 78) rfl) rfl
theorem w560 : (Cond.laysFinal "InSyncLogModel" "InSyncLogModel" "start" "[I") ∈ wsBig := wb3 (List.mem_of_getElem? (i := 80) rfl) rfl
theorem w562 : (Cond.lays "InSyncLogModel" "InSyncLogModel" "count" "I") ∈ wsBig := wb3 (List.mem_of_getElem? (i := 82) rfl) rfl
theorem w564 : (Cond.laysFinal "InSyncLogModel" "InSyncLogModel" "kind" "[I") ∈ wsBig := wb3 (List.mem_of_getElem? (i := 84) rfl) rfl
theorem w566 : (Cond.laysFinal "InSyncLogModel" "InSyncLogModel" "from" "[I") ∈ wsBig := wb3 (List.mem_of_getElem? (i := 86) rfl) rfl
theorem w568 : (Cond.laysFinal "InSyncLogModel" "InSyncLogModel" "to" "[I") ∈ wsBig := wb3 (List.mem_of_getElem? (i := 88) rfl) rfl
theorem w570 : (Cond.laysFinal "InSyncLogModel" "InSyncLogModel" "bears" "[I") ∈ wsBig := wb3 (List.mem_of_getElem? (i := 90) rfl) rfl
theorem w572 : (Cond.laysFinal "InSyncLogModel" "InSyncLogModel" "number" "[I") ∈ wsBig := wb3 (List.mem_of_getElem? (i := 92) rfl) rfl
theorem w574 : (Cond.laysFinal "InSyncLogModel" "InSyncLogModel" "five" "[I") ∈ wsBig := wb3 (List.mem_of_getElem? (i := 94) rfl) rfl
theorem w576 : (Cond.laysFinal "InSyncLogModel" "InSyncLogModel" "six" "[I") ∈ wsBig := wb3 (List.mem_of_getElem? (i := 96) rfl) rfl
theorem w578 : (Cond.laysFinal "InSyncLogModel" "InSyncLogModel" "load" "[I") ∈ wsBig := wb3 (List.mem_of_getElem? (i := 98) rfl) rfl
theorem w580 : (Cond.laysFinal "InSyncLogModel" "InSyncLogModel" "now" "[I") ∈ wsBig := wb3 (List.mem_of_getElem? (i := 100) rfl) rfl
theorem w583 : (Cond.arrayClass FieldType.boolean) ∈ wsBig := wb3 (List.mem_of_getElem? (i := 103) rfl) rfl
theorem w584 : (Cond.methodLink "InSyncLogLaw" (25 : Nat) ({ cls := "InSyncLogModel", name := "produce", desc := "(II)I" } : MethodName)) ∈ wsBig := wb3 (List.mem_of_getElem? (i := 104) rfl) rfl
theorem w585 : (Cond.instanceMethod ({ cls := "InSyncLogModel", name := "produce", desc := "(II)I" } : MethodName)) ∈ wsBig := wb3 (List.mem_of_getElem? (i := 105) rfl) rfl
theorem w586 : (Cond.selects "InSyncLogModel" ({ cls := "InSyncLogModel", name := "produce", desc := "(II)I" } : MethodName) ({ cls := "InSyncLogModel", name := "produce", desc := "(II)I" } : MethodName)) ∈ wsBig := wb3 (List.mem_of_getElem? (i := 106) rfl) rfl
theorem w587 : (Cond.code ({ cls := "InSyncLogModel", name := "produce", desc := "(II)I" } : MethodName) prog_8_method_10_code (3 : Nat) (Option.some FieldType.int)) ∈ wsBig := wb3 (List.mem_of_getElem? (i := 107) rfl) rfl
theorem w588 : (Cond.methodLink "InSyncLogModel" (123 : Nat) ({ cls := "InSyncLogModel", name := "leads", desc := "(I)Z" } : MethodName)) ∈ wsBig := wb3 (List.mem_of_getElem? (i := 108) rfl) rfl
theorem w590 : (Cond.instanceMethod ({ cls := "InSyncLogModel", name := "leads", desc := "(I)Z" } : MethodName)) ∈ wsBig := wb3 (List.mem_of_getElem? (i := 110) rfl) rfl
theorem w591 : (Cond.code ({ cls := "InSyncLogModel", name := "leads", desc := "(I)Z" } : MethodName) prog_8_method_3_code (2 : Nat) (Option.some FieldType.boolean)) ∈ wsBig := wb3 (List.mem_of_getElem? (i := 111) rfl) rfl
theorem w592 : (Cond.methodLink "InSyncLogModel" (106 : Nat) ({ cls := "InSyncLogModel", name := "isBroker", desc := "(I)Z" } : MethodName)) ∈ wsBig := wb3 (List.mem_of_getElem? (i := 112) rfl) rfl
theorem w593 : (Cond.static ({ cls := "InSyncLogModel", name := "isBroker", desc := "(I)Z" } : MethodName)) ∈ wsBig := wb3 (List.mem_of_getElem? (i := 113) rfl) rfl
theorem w594 : (Cond.code ({ cls := "InSyncLogModel", name := "isBroker", desc := "(I)Z" } : MethodName) prog_8_method_2_code (1 : Nat) (Option.some FieldType.boolean)) ∈ wsBig := wb3 (List.mem_of_getElem? (i := 114) rfl) rfl
theorem w595 : (Cond.methodLink "InSyncLogModel" (126 : Nat) ({ cls := "InSyncLogModel", name := "append", desc := "(IIZ)I" } : MethodName)) ∈ wsBig := wb3 (List.mem_of_getElem? (i := 115) rfl) rfl
theorem w597 : (Cond.instanceMethod ({ cls := "InSyncLogModel", name := "append", desc := "(IIZ)I" } : MethodName)) ∈ wsBig := wb3 (List.mem_of_getElem? (i := 117) rfl) rfl
theorem w598 : (Cond.code ({ cls := "InSyncLogModel", name := "append", desc := "(IIZ)I" } : MethodName) prog_8_method_9_code (4 : Nat) (Option.some FieldType.int)) ∈ wsBig := wb3 (List.mem_of_getElem? (i := 118) rfl) rfl
theorem w599 : (Cond.methodLink "InSyncLogModel" (113 : Nat) ({ cls := "InSyncLogModel", name := "syncSize", desc := "(I)I" } : MethodName)) ∈ wsBig := wb3 (List.mem_of_getElem? (i := 119) rfl) rfl
theorem w601 : (Cond.instanceMethod ({ cls := "InSyncLogModel", name := "syncSize", desc := "(I)I" } : MethodName)) ∈ wsBig := wb3 (List.mem_of_getElem? (i := 121) rfl) rfl
theorem w602 : (Cond.code ({ cls := "InSyncLogModel", name := "syncSize", desc := "(I)I" } : MethodName) prog_8_method_5_code (4 : Nat) (Option.some FieldType.int)) ∈ wsBig := wb3 (List.mem_of_getElem? (i := 122) rfl) rfl
theorem w603 : (Cond.methodLink "InSyncLogModel" (120 : Nat) ({ cls := "InSyncLogModel", name := "rise", desc := "(I)V" } : MethodName)) ∈ wsBig := wb3 (List.mem_of_getElem? (i := 123) rfl) rfl
theorem w605 : (Cond.instanceMethod ({ cls := "InSyncLogModel", name := "rise", desc := "(I)V" } : MethodName)) ∈ wsBig := wb3 (List.mem_of_getElem? (i := 125) rfl) rfl
theorem w606 : (Cond.code ({ cls := "InSyncLogModel", name := "rise", desc := "(I)V" } : MethodName) prog_8_method_6_code (5 : Nat) (Option.none : Option FieldType)) ∈ wsBig := wb3 (List.mem_of_getElem? (i := 126) rfl) rfl
theorem w607 : (Cond.methodLink "InSyncLogLaw" (29 : Nat) ({ cls := "InSyncLogModel", name := "commit", desc := "(II)I" } : MethodName)) ∈ wsBig := wb3 (List.mem_of_getElem? (i := 127) rfl) rfl
theorem w608 : (Cond.instanceMethod ({ cls := "InSyncLogModel", name := "commit", desc := "(II)I" } : MethodName)) ∈ wsBig := wb3 (List.mem_of_getElem? (i := 128) rfl) rfl
theorem w609 : (Cond.selects "InSyncLogModel" ({ cls := "InSyncLogModel", name := "commit", desc := "(II)I" } : MethodName) ({ cls := "InSyncLogModel", name := "commit", desc := "(II)I" } : MethodName)) ∈ wsBig := wb3 (List.mem_of_getElem? (i := 129) rfl) rfl
theorem w610 : (Cond.code ({ cls := "InSyncLogModel", name := "commit", desc := "(II)I" } : MethodName) prog_8_method_11_code (3 : Nat) (Option.some FieldType.int)) ∈ wsBig := wb3 (List.mem_of_getElem? (i := 130) rfl) rfl
theorem w611 : (Cond.methodLink "InSyncLogLaw" (33 : Nat) ({ cls := "InSyncLogModel", name := "readable", desc := "(II)I" } : MethodName)) ∈ wsBig := wb3 (List.mem_of_getElem? (i := 131) rfl) rfl
theorem w612 : (Cond.instanceMethod ({ cls := "InSyncLogModel", name := "readable", desc := "(II)I" } : MethodName)) ∈ wsBig := wb3 (List.mem_of_getElem? (i := 132) rfl) rfl
theorem w613 : (Cond.selects "InSyncLogModel" ({ cls := "InSyncLogModel", name := "readable", desc := "(II)I" } : MethodName) ({ cls := "InSyncLogModel", name := "readable", desc := "(II)I" } : MethodName)) ∈ wsBig := wb3 (List.mem_of_getElem? (i := 133) rfl) rfl
theorem w614 : (Cond.code ({ cls := "InSyncLogModel", name := "readable", desc := "(II)I" } : MethodName) prog_8_method_13_code (4 : Nat) (Option.some FieldType.int)) ∈ wsBig := wb3 (List.mem_of_getElem? (i := 134) rfl) rfl
theorem w615 : (Cond.methodLink "InSyncLogModel" (134 : Nat) ({ cls := "InSyncLogModel", name := "recordAt", desc := "(II)I" } : MethodName)) ∈ wsBig := wb3 (List.mem_of_getElem? (i := 135) rfl) rfl
theorem w617 : (Cond.instanceMethod ({ cls := "InSyncLogModel", name := "recordAt", desc := "(II)I" } : MethodName)) ∈ wsBig := wb3 (List.mem_of_getElem? (i := 137) rfl) rfl
theorem w618 : (Cond.code ({ cls := "InSyncLogModel", name := "recordAt", desc := "(II)I" } : MethodName) prog_8_method_12_code (3 : Nat) (Option.some FieldType.int)) ∈ wsBig := wb3 (List.mem_of_getElem? (i := 138) rfl) rfl
theorem w619 : (Cond.methodLink "InSyncLogModel" (130 : Nat) ({ cls := "InSyncLogModel", name := "upTo", desc := "(II)I" } : MethodName)) ∈ wsBig := wb3 (List.mem_of_getElem? (i := 139) rfl) rfl
theorem w621 : (Cond.instanceMethod ({ cls := "InSyncLogModel", name := "upTo", desc := "(II)I" } : MethodName)) ∈ wsBig := wb3 (List.mem_of_getElem? (i := 141) rfl) rfl
theorem w622 : (Cond.code ({ cls := "InSyncLogModel", name := "upTo", desc := "(II)I" } : MethodName) prog_8_method_7_code (4 : Nat) (Option.some FieldType.int)) ∈ wsBig := wb3 (List.mem_of_getElem? (i := 142) rfl) rfl
theorem w623 : (Cond.methodLink "InSyncLogLaw" (38 : Nat) ({ cls := "InSyncLogModel", name := "committed", desc := "(I)I" } : MethodName)) ∈ wsBig := wb3 (List.mem_of_getElem? (i := 143) rfl) rfl
theorem w624 : (Cond.instanceMethod ({ cls := "InSyncLogModel", name := "committed", desc := "(I)I" } : MethodName)) ∈ wsBig := wb3 (List.mem_of_getElem? (i := 144) rfl) rfl
theorem w625 : (Cond.selects "InSyncLogModel" ({ cls := "InSyncLogModel", name := "committed", desc := "(I)I" } : MethodName) ({ cls := "InSyncLogModel", name := "committed", desc := "(I)I" } : MethodName)) ∈ wsBig := wb3 (List.mem_of_getElem? (i := 145) rfl) rfl
theorem w626 : (Cond.code ({ cls := "InSyncLogModel", name := "committed", desc := "(I)I" } : MethodName) prog_8_method_14_code (3 : Nat) (Option.some FieldType.int)) ∈ wsBig := wb3 (List.mem_of_getElem? (i := 146) rfl) rfl
theorem w627 : (Cond.methodLink "InSyncLogLaw" (96 : Nat) ({ cls := "InSyncLogModel", name := "epochAt", desc := "(II)I" } : MethodName)) ∈ wsBig := wb3 (List.mem_of_getElem? (i := 147) rfl) rfl
theorem w628 : (Cond.instanceMethod ({ cls := "InSyncLogModel", name := "epochAt", desc := "(II)I" } : MethodName)) ∈ wsBig := wb3 (List.mem_of_getElem? (i := 148) rfl) rfl
theorem w629 : (Cond.selects "InSyncLogModel" ({ cls := "InSyncLogModel", name := "epochAt", desc := "(II)I" } : MethodName) ({ cls := "InSyncLogModel", name := "epochAt", desc := "(II)I" } : MethodName)) ∈ wsBig := wb3 (List.mem_of_getElem? (i := 149) rfl) rfl
theorem w630 : (Cond.code ({ cls := "InSyncLogModel", name := "epochAt", desc := "(II)I" } : MethodName) prog_8_method_15_code (4 : Nat) (Option.some FieldType.int)) ∈ wsBig := wb3 (List.mem_of_getElem? (i := 150) rfl) rfl
theorem w631 : (Cond.methodLink "InSyncLogLaw" (100 : Nat) ({ cls := "InSyncLogModel", name := "valueAt", desc := "(II)I" } : MethodName)) ∈ wsBig := wb3 (List.mem_of_getElem? (i := 151) rfl) rfl
theorem w632 : (Cond.instanceMethod ({ cls := "InSyncLogModel", name := "valueAt", desc := "(II)I" } : MethodName)) ∈ wsBig := wb3 (List.mem_of_getElem? (i := 152) rfl) rfl
theorem w633 : (Cond.selects "InSyncLogModel" ({ cls := "InSyncLogModel", name := "valueAt", desc := "(II)I" } : MethodName) ({ cls := "InSyncLogModel", name := "valueAt", desc := "(II)I" } : MethodName)) ∈ wsBig := wb3 (List.mem_of_getElem? (i := 153) rfl) rfl
theorem w634 : (Cond.code ({ cls := "InSyncLogModel", name := "valueAt", desc := "(II)I" } : MethodName) prog_8_method_16_code (4 : Nat) (Option.some FieldType.int)) ∈ wsBig := wb3 (List.mem_of_getElem? (i := 154) rfl) rfl
theorem w635 : (Cond.methodLink "InSyncLogLaw" (43 : Nat) ({ cls := "InSyncLogModel", name := "fetch", desc := "(I)Z" } : MethodName)) ∈ wsBig := wb3 (List.mem_of_getElem? (i := 155) rfl) rfl
theorem w636 : (Cond.instanceMethod ({ cls := "InSyncLogModel", name := "fetch", desc := "(I)Z" } : MethodName)) ∈ wsBig := wb3 (List.mem_of_getElem? (i := 156) rfl) rfl
theorem w637 : (Cond.selects "InSyncLogModel" ({ cls := "InSyncLogModel", name := "fetch", desc := "(I)Z" } : MethodName) ({ cls := "InSyncLogModel", name := "fetch", desc := "(I)Z" } : MethodName)) ∈ wsBig := wb3 (List.mem_of_getElem? (i := 157) rfl) rfl
theorem w638 : (Cond.code ({ cls := "InSyncLogModel", name := "fetch", desc := "(I)Z" } : MethodName) prog_8_method_21_code (3 : Nat) (Option.some FieldType.boolean)) ∈ wsBig := wb3 (List.mem_of_getElem? (i := 158) rfl) rfl
theorem w639 : (Cond.methodLink "InSyncLogModel" (144 : Nat) ({ cls := "InSyncLogModel", name := "send", desc := "(IIIIIII)Z" } : MethodName)) ∈ wsBig := wb3 (List.mem_of_getElem? (i := 159) rfl) rfl
theorem w641 : (Cond.instanceMethod ({ cls := "InSyncLogModel", name := "send", desc := "(IIIIIII)Z" } : MethodName)) ∈ wsBig := wb3 (List.mem_of_getElem? (i := 161) rfl) rfl
theorem w642 : (Cond.code ({ cls := "InSyncLogModel", name := "send", desc := "(IIIIIII)Z" } : MethodName) prog_8_method_18_code (8 : Nat) (Option.some FieldType.boolean)) ∈ wsBig := wb3 (List.mem_of_getElem? (i := 162) rfl) rfl
theorem w643 : (Cond.methodLink "InSyncLogLaw" (51 : Nat) ({ cls := "InSyncLogModel", name := "lose", desc := "(I)Z" } : MethodName)) ∈ wsBig := wb3 (List.mem_of_getElem? (i := 163) rfl) rfl
theorem w644 : (Cond.instanceMethod ({ cls := "InSyncLogModel", name := "lose", desc := "(I)Z" } : MethodName)) ∈ wsBig := wb3 (List.mem_of_getElem? (i := 164) rfl) rfl
theorem w645 : (Cond.selects "InSyncLogModel" ({ cls := "InSyncLogModel", name := "lose", desc := "(I)Z" } : MethodName) ({ cls := "InSyncLogModel", name := "lose", desc := "(I)Z" } : MethodName)) ∈ wsBig := wb3 (List.mem_of_getElem? (i := 165) rfl) rfl
theorem w646 : (Cond.code ({ cls := "InSyncLogModel", name := "lose", desc := "(I)Z" } : MethodName) prog_8_method_22_code (2 : Nat) (Option.some FieldType.boolean)) ∈ wsBig := wb3 (List.mem_of_getElem? (i := 166) rfl) rfl
theorem w647 : (Cond.methodLink "InSyncLogModel" (148 : Nat) ({ cls := "InSyncLogModel", name := "isMessage", desc := "(I)Z" } : MethodName)) ∈ wsBig := wb3 (List.mem_of_getElem? (i := 167) rfl) rfl
theorem w649 : (Cond.instanceMethod ({ cls := "InSyncLogModel", name := "isMessage", desc := "(I)Z" } : MethodName)) ∈ wsBig := wb3 (List.mem_of_getElem? (i := 169) rfl) rfl
theorem w650 : (Cond.code ({ cls := "InSyncLogModel", name := "isMessage", desc := "(I)Z" } : MethodName) prog_8_method_17_code (2 : Nat) (Option.some FieldType.boolean)) ∈ wsBig := wb3 (List.mem_of_getElem? (i := 170) rfl) rfl
theorem w651 : (Cond.methodLink "InSyncLogModel" (151 : Nat) ({ cls := "InSyncLogModel", name := "remove", desc := "(I)V" } : MethodName)) ∈ wsBig := wb3 (List.mem_of_getElem? (i := 171) rfl) rfl
theorem w653 : (Cond.instanceMethod ({ cls := "InSyncLogModel", name := "remove", desc := "(I)V" } : MethodName)) ∈ wsBig := wb3 (List.mem_of_getElem? (i := 173) rfl) rfl
theorem w654 : (Cond.code ({ cls := "InSyncLogModel", name := "remove", desc := "(I)V" } : MethodName) prog_8_method_20_code (3 : Nat) (Option.none : Option FieldType)) ∈ wsBig := wb3 (List.mem_of_getElem? (i := 174) rfl) rfl
theorem w655 : (Cond.methodLink "InSyncLogModel" (140 : Nat) ({ cls := "InSyncLogModel", name := "move", desc := "(II)V" } : MethodName)) ∈ wsBig := wb3 (List.mem_of_getElem? (i := 175) rfl) rfl
theorem w657 : (Cond.instanceMethod ({ cls := "InSyncLogModel", name := "move", desc := "(II)V" } : MethodName)) ∈ wsBig := wb3 (List.mem_of_getElem? (i := 177) rfl) rfl
theorem w658 : (Cond.code ({ cls := "InSyncLogModel", name := "move", desc := "(II)V" } : MethodName) prog_8_method_19_code (3 : Nat) (Option.none : Option FieldType)) ∈ wsBig := wb3 (List.mem_of_getElem? (i := 178) rfl) rfl
theorem w659 : (Cond.methodLink "InSyncLogLaw" (56 : Nat) ({ cls := "InSyncLogModel", name := "flight", desc := "()I" } : MethodName)) ∈ wsBig := wb3 (List.mem_of_getElem? (i := 179) rfl) rfl
theorem w660 : (Cond.instanceMethod ({ cls := "InSyncLogModel", name := "flight", desc := "()I" } : MethodName)) ∈ wsBig := wb3 (List.mem_of_getElem? (i := 180) rfl) rfl
theorem w661 : (Cond.selects "InSyncLogModel" ({ cls := "InSyncLogModel", name := "flight", desc := "()I" } : MethodName) ({ cls := "InSyncLogModel", name := "flight", desc := "()I" } : MethodName)) ∈ wsBig := wb3 (List.mem_of_getElem? (i := 181) rfl) rfl
theorem w662 : (Cond.code ({ cls := "InSyncLogModel", name := "flight", desc := "()I" } : MethodName) prog_8_method_23_code (1 : Nat) (Option.some FieldType.int)) ∈ wsBig := wb3 (List.mem_of_getElem? (i := 182) rfl) rfl
theorem w663 : (Cond.methodLink "InSyncLogLaw" (60 : Nat) ({ cls := "InSyncLogModel", name := "message", desc := "(II)I" } : MethodName)) ∈ wsBig := wb3 (List.mem_of_getElem? (i := 183) rfl) rfl
theorem w664 : (Cond.instanceMethod ({ cls := "InSyncLogModel", name := "message", desc := "(II)I" } : MethodName)) ∈ wsBig := wb3 (List.mem_of_getElem? (i := 184) rfl) rfl
theorem w665 : (Cond.selects "InSyncLogModel" ({ cls := "InSyncLogModel", name := "message", desc := "(II)I" } : MethodName) ({ cls := "InSyncLogModel", name := "message", desc := "(II)I" } : MethodName)) ∈ wsBig := wb3 (List.mem_of_getElem? (i := 185) rfl) rfl
theorem w666 : (Cond.code ({ cls := "InSyncLogModel", name := "message", desc := "(II)I" } : MethodName) prog_8_method_24_code (3 : Nat) (Option.some FieldType.int)) ∈ wsBig := wb3 (List.mem_of_getElem? (i := 186) rfl) rfl
theorem w667 : (Cond.methodLink "InSyncLogLaw" (47 : Nat) ({ cls := "InSyncLogModel", name := "deliver", desc := "(I)Z" } : MethodName)) ∈ wsBig := wb3 (List.mem_of_getElem? (i := 187) rfl) rfl
theorem w668 : (Cond.instanceMethod ({ cls := "InSyncLogModel", name := "deliver", desc := "(I)Z" } : MethodName)) ∈ wsBig := wb3 (List.mem_of_getElem? (i := 188) rfl) rfl
theorem w669 : (Cond.selects "InSyncLogModel" ({ cls := "InSyncLogModel", name := "deliver", desc := "(I)Z" } : MethodName) ({ cls := "InSyncLogModel", name := "deliver", desc := "(I)Z" } : MethodName)) ∈ wsBig := wb3 (List.mem_of_getElem? (i := 189) rfl) rfl
theorem w670 : (Cond.code ({ cls := "InSyncLogModel", name := "deliver", desc := "(I)Z" } : MethodName) prog_8_method_25_code (4 : Nat) (Option.some FieldType.boolean)) ∈ wsBig := wb3 (List.mem_of_getElem? (i := 190) rfl) rfl
theorem w671 : (Cond.methodLink "InSyncLogModel" (154 : Nat) ({ cls := "InSyncLogModel", name := "message", desc := "(II)I" } : MethodName)) ∈ wsBig := wb3 (List.mem_of_getElem? (i := 191) rfl) rfl
theorem w672 : (Cond.methodLink "InSyncLogModel" (157 : Nat) ({ cls := "InSyncLogModel", name := "answer", desc := "(IIII)V" } : MethodName)) ∈ wsBig := wb3 (List.mem_of_getElem? (i := 192) rfl) rfl
theorem w674 : (Cond.instanceMethod ({ cls := "InSyncLogModel", name := "answer", desc := "(IIII)V" } : MethodName)) ∈ wsBig := wb3 (List.mem_of_getElem? (i := 194) rfl) rfl
theorem w675 : (Cond.code ({ cls := "InSyncLogModel", name := "answer", desc := "(IIII)V" } : MethodName) prog_8_method_26_code (8 : Nat) (Option.none : Option FieldType)) ∈ wsBig := wb3 (List.mem_of_getElem? (i := 195) rfl) rfl
theorem w676 : (Cond.methodLink "InSyncLogModel" (167 : Nat) ({ cls := "InSyncLogModel", name := "underEpoch", desc := "(II)I" } : MethodName)) ∈ wsBig := wb3 (List.mem_of_getElem? (i := 196) rfl) rfl
theorem w678 : (Cond.instanceMethod ({ cls := "InSyncLogModel", name := "underEpoch", desc := "(II)I" } : MethodName)) ∈ wsBig := wb3 (List.mem_of_getElem? (i := 198) rfl) rfl
theorem w679 : (Cond.code ({ cls := "InSyncLogModel", name := "underEpoch", desc := "(II)I" } : MethodName) prog_8_method_8_code (4 : Nat) (Option.some FieldType.int)) ∈ wsBig := wb3 (List.mem_of_getElem? (i := 199) rfl) rfl
theorem w680 : (Cond.methodLink "InSyncLogModel" (161 : Nat) ({ cls := "InSyncLogModel", name := "cut", desc := "(I)V" } : MethodName)) ∈ wsBig := wb3 (List.mem_of_getElem? (i := 200) rfl) rfl
theorem w682 : (Cond.instanceMethod ({ cls := "InSyncLogModel", name := "cut", desc := "(I)V" } : MethodName)) ∈ wsBig := wb3 (List.mem_of_getElem? (i := 202) rfl) rfl
theorem w683 : (Cond.code ({ cls := "InSyncLogModel", name := "cut", desc := "(I)V" } : MethodName) prog_8_method_27_code (3 : Nat) (Option.none : Option FieldType)) ∈ wsBig := wb3 (List.mem_of_getElem? (i := 203) rfl) rfl
theorem w684 : (Cond.methodLink "InSyncLogModel" (164 : Nat) ({ cls := "InSyncLogModel", name := "extend", desc := "(I)V" } : MethodName)) ∈ wsBig := wb3 (List.mem_of_getElem? (i := 204) rfl) rfl
theorem w686 : (Cond.instanceMethod ({ cls := "InSyncLogModel", name := "extend", desc := "(I)V" } : MethodName)) ∈ wsBig := wb3 (List.mem_of_getElem? (i := 206) rfl) rfl
theorem w687 : (Cond.code ({ cls := "InSyncLogModel", name := "extend", desc := "(I)V" } : MethodName) prog_8_method_28_code (4 : Nat) (Option.none : Option FieldType)) ∈ wsBig := wb3 (List.mem_of_getElem? (i := 207) rfl) rfl
theorem w688 : (Cond.methodLink "InSyncLogLaw" (64 : Nat) ({ cls := "InSyncLogModel", name := "review", desc := "(I)I" } : MethodName)) ∈ wsBig := wb3 (List.mem_of_getElem? (i := 208) rfl) rfl
theorem w689 : (Cond.instanceMethod ({ cls := "InSyncLogModel", name := "review", desc := "(I)I" } : MethodName)) ∈ wsBig := wb3 (List.mem_of_getElem? (i := 209) rfl) rfl
theorem w690 : (Cond.selects "InSyncLogModel" ({ cls := "InSyncLogModel", name := "review", desc := "(I)I" } : MethodName) ({ cls := "InSyncLogModel", name := "review", desc := "(I)I" } : MethodName)) ∈ wsBig := wb3 (List.mem_of_getElem? (i := 210) rfl) rfl
theorem w691 : (Cond.code ({ cls := "InSyncLogModel", name := "review", desc := "(I)I" } : MethodName) prog_8_method_30_code (6 : Nat) (Option.some FieldType.int)) ∈ wsBig := wb3 (List.mem_of_getElem? (i := 211) rfl) rfl
theorem w692 : (Cond.methodLink "InSyncLogModel" (170 : Nat) ({ cls := "InSyncLogModel", name := "bits", desc := "(ZI)I" } : MethodName)) ∈ wsBig := wb3 (List.mem_of_getElem? (i := 212) rfl) rfl
theorem w694 : (Cond.instanceMethod ({ cls := "InSyncLogModel", name := "bits", desc := "(ZI)I" } : MethodName)) ∈ wsBig := wb3 (List.mem_of_getElem? (i := 214) rfl) rfl
theorem w695 : (Cond.code ({ cls := "InSyncLogModel", name := "bits", desc := "(ZI)I" } : MethodName) prog_8_method_29_code (6 : Nat) (Option.some FieldType.int)) ∈ wsBig := wb3 (List.mem_of_getElem? (i := 215) rfl) rfl
theorem w696 : (Cond.methodLink "InSyncLogLaw" (68 : Nat) ({ cls := "InSyncLogModel", name := "learn", desc := "(I)Z" } : MethodName)) ∈ wsBig := wb3 (List.mem_of_getElem? (i := 216) rfl) rfl
theorem w697 : (Cond.instanceMethod ({ cls := "InSyncLogModel", name := "learn", desc := "(I)Z" } : MethodName)) ∈ wsBig := wb3 (List.mem_of_getElem? (i := 217) rfl) rfl
theorem w698 : (Cond.selects "InSyncLogModel" ({ cls := "InSyncLogModel", name := "learn", desc := "(I)Z" } : MethodName) ({ cls := "InSyncLogModel", name := "learn", desc := "(I)Z" } : MethodName)) ∈ wsBig := wb3 (List.mem_of_getElem? (i := 218) rfl) rfl
theorem w699 : (Cond.code ({ cls := "InSyncLogModel", name := "learn", desc := "(I)Z" } : MethodName) prog_8_method_31_code (2 : Nat) (Option.some FieldType.boolean)) ∈ wsBig := wb3 (List.mem_of_getElem? (i := 219) rfl) rfl
theorem w700 : (Cond.methodLink "InSyncLogLaw" (72 : Nat) ({ cls := "InSyncLogModel", name := "crash", desc := "(I)Z" } : MethodName)) ∈ wsBig := wb3 (List.mem_of_getElem? (i := 220) rfl) rfl
theorem w701 : (Cond.instanceMethod ({ cls := "InSyncLogModel", name := "crash", desc := "(I)Z" } : MethodName)) ∈ wsBig := wb3 (List.mem_of_getElem? (i := 221) rfl) rfl
theorem w702 : (Cond.selects "InSyncLogModel" ({ cls := "InSyncLogModel", name := "crash", desc := "(I)Z" } : MethodName) ({ cls := "InSyncLogModel", name := "crash", desc := "(I)Z" } : MethodName)) ∈ wsBig := wb3 (List.mem_of_getElem? (i := 222) rfl) rfl
theorem w703 : (Cond.code ({ cls := "InSyncLogModel", name := "crash", desc := "(I)Z" } : MethodName) prog_8_method_32_code (2 : Nat) (Option.some FieldType.boolean)) ∈ wsBig := wb3 (List.mem_of_getElem? (i := 223) rfl) rfl
theorem w704 : (Cond.methodLink "InSyncLogLaw" (76 : Nat) ({ cls := "InSyncLogModel", name := "restart", desc := "(I)Z" } : MethodName)) ∈ wsBig := wb3 (List.mem_of_getElem? (i := 224) rfl) rfl
theorem w705 : (Cond.instanceMethod ({ cls := "InSyncLogModel", name := "restart", desc := "(I)Z" } : MethodName)) ∈ wsBig := wb3 (List.mem_of_getElem? (i := 225) rfl) rfl
theorem w706 : (Cond.selects "InSyncLogModel" ({ cls := "InSyncLogModel", name := "restart", desc := "(I)Z" } : MethodName) ({ cls := "InSyncLogModel", name := "restart", desc := "(I)Z" } : MethodName)) ∈ wsBig := wb3 (List.mem_of_getElem? (i := 226) rfl) rfl
theorem w707 : (Cond.code ({ cls := "InSyncLogModel", name := "restart", desc := "(I)Z" } : MethodName) prog_8_method_33_code (3 : Nat) (Option.some FieldType.boolean)) ∈ wsBig := wb3 (List.mem_of_getElem? (i := 227) rfl) rfl
theorem w708 : (Cond.methodLink "InSyncLogLaw" (80 : Nat) ({ cls := "InSyncLogModel", name := "govern", desc := "(I)Z" } : MethodName)) ∈ wsBig := wb3 (List.mem_of_getElem? (i := 228) rfl) rfl
theorem w709 : (Cond.instanceMethod ({ cls := "InSyncLogModel", name := "govern", desc := "(I)Z" } : MethodName)) ∈ wsBig := wb3 (List.mem_of_getElem? (i := 229) rfl) rfl
theorem w710 : (Cond.selects "InSyncLogModel" ({ cls := "InSyncLogModel", name := "govern", desc := "(I)Z" } : MethodName) ({ cls := "InSyncLogModel", name := "govern", desc := "(I)Z" } : MethodName)) ∈ wsBig := wb3 (List.mem_of_getElem? (i := 230) rfl) rfl
theorem w711 : (Cond.code ({ cls := "InSyncLogModel", name := "govern", desc := "(I)Z" } : MethodName) prog_8_method_35_code (7 : Nat) (Option.some FieldType.boolean)) ∈ wsBig := wb3 (List.mem_of_getElem? (i := 231) rfl) rfl
theorem w712 : (Cond.methodLink "InSyncLogModel" (177 : Nat) ({ cls := "InSyncLogModel", name := "alive", desc := "(II)Z" } : MethodName)) ∈ wsBig := wb3 (List.mem_of_getElem? (i := 232) rfl) rfl
theorem w714 : (Cond.instanceMethod ({ cls := "InSyncLogModel", name := "alive", desc := "(II)Z" } : MethodName)) ∈ wsBig := wb3 (List.mem_of_getElem? (i := 234) rfl) rfl
theorem w715 : (Cond.code ({ cls := "InSyncLogModel", name := "alive", desc := "(II)Z" } : MethodName) prog_8_method_34_code (3 : Nat) (Option.some FieldType.boolean)) ∈ wsBig := wb3 (List.mem_of_getElem? (i := 235) rfl) rfl
theorem w716 : (Cond.methodLink "InSyncLogLaw" (84 : Nat) ({ cls := "InSyncLogModel", name := "tick", desc := "(I)Z" } : MethodName)) ∈ wsBig := wb3 (List.mem_of_getElem? (i := 236) rfl) rfl
theorem w717 : (Cond.instanceMethod ({ cls := "InSyncLogModel", name := "tick", desc := "(I)Z" } : MethodName)) ∈ wsBig := wb3 (List.mem_of_getElem? (i := 237) rfl) rfl
theorem w718 : (Cond.selects "InSyncLogModel" ({ cls := "InSyncLogModel", name := "tick", desc := "(I)Z" } : MethodName) ({ cls := "InSyncLogModel", name := "tick", desc := "(I)Z" } : MethodName)) ∈ wsBig := wb3 (List.mem_of_getElem? (i := 238) rfl) rfl
theorem w719 : (Cond.code ({ cls := "InSyncLogModel", name := "tick", desc := "(I)Z" } : MethodName) prog_8_method_36_code (2 : Nat) (Option.some FieldType.boolean)) ∈ wsBig := wb3 (List.mem_of_getElem? (i := 239) rfl) rfl
theorem w720 : (Cond.methodLink "InSyncLogLaw" (88 : Nat) ({ cls := "InSyncLogModel", name := "controller", desc := "(I)I" } : MethodName)) ∈ wsBig := wb4 (List.mem_of_getElem? (i := 0) rfl) rfl
theorem w721 : (Cond.instanceMethod ({ cls := "InSyncLogModel", name := "controller", desc := "(I)I" } : MethodName)) ∈ wsBig := wb4 (List.mem_of_getElem? (i := 1) rfl) rfl
theorem w722 : (Cond.selects "InSyncLogModel" ({ cls := "InSyncLogModel", name := "controller", desc := "(I)I" } : MethodName) ({ cls := "InSyncLogModel", name := "controller", desc := "(I)I" } : MethodName)) ∈ wsBig := wb4 (List.mem_of_getElem? (i := 2) rfl) rfl
theorem w723 : (Cond.code ({ cls := "InSyncLogModel", name := "controller", desc := "(I)I" } : MethodName) prog_8_method_37_code (2 : Nat) (Option.some FieldType.int)) ∈ wsBig := wb4 (List.mem_of_getElem? (i := 3) rfl) rfl
theorem w724 : (Cond.methodLink "InSyncLogLaw" (92 : Nat) ({ cls := "InSyncLogModel", name := "broker", desc := "(II)I" } : MethodName)) ∈ wsBig := wb4 (List.mem_of_getElem? (i := 4) rfl) rfl
theorem w725 : (Cond.instanceMethod ({ cls := "InSyncLogModel", name := "broker", desc := "(II)I" } : MethodName)) ∈ wsBig := wb4 (List.mem_of_getElem? (i := 5) rfl) rfl
theorem w726 : (Cond.selects "InSyncLogModel" ({ cls := "InSyncLogModel", name := "broker", desc := "(II)I" } : MethodName) ({ cls := "InSyncLogModel", name := "broker", desc := "(II)I" } : MethodName)) ∈ wsBig := wb4 (List.mem_of_getElem? (i := 6) rfl) rfl
theorem w727 : (Cond.code ({ cls := "InSyncLogModel", name := "broker", desc := "(II)I" } : MethodName) prog_8_method_38_code (3 : Nat) (Option.some FieldType.int)) ∈ wsBig := wb4 (List.mem_of_getElem? (i := 7) rfl) rfl
theorem s_I_isLeading : Cond.selects "InSyncLog" ⟨"InSyncLog", "isLeading", "(I)Z"⟩ ⟨"InSyncLog", "isLeading", "(I)Z"⟩ ∈ wsBig := wq1 (List.mem_of_getElem? (i := 0) rfl)
theorem s_B_leads : Cond.selects "InSyncLog$Broker" ⟨"InSyncLog$Broker", "leads", "()Z"⟩ ⟨"InSyncLog$Broker", "leads", "()Z"⟩ ∈ wsBig := wq1 (List.mem_of_getElem? (i := 1) rfl)
theorem s_I_append : Cond.selects "InSyncLog" ⟨"InSyncLog", "append", "(LInSyncLog$Broker;II)I"⟩ ⟨"InSyncLog", "append", "(LInSyncLog$Broker;II)I"⟩ ∈ wsBig := wq1 (List.mem_of_getElem? (i := 2) rfl)
theorem s_L_isFull : Cond.selects "InSyncLog$Log" ⟨"InSyncLog$Log", "isFull", "()Z"⟩ ⟨"InSyncLog$Log", "isFull", "()Z"⟩ ∈ wsBig := wq1 (List.mem_of_getElem? (i := 3) rfl)
theorem s_L_add : Cond.selects "InSyncLog$Log" ⟨"InSyncLog$Log", "add", "(II)V"⟩ ⟨"InSyncLog$Log", "add", "(II)V"⟩ ∈ wsBig := wq1 (List.mem_of_getElem? (i := 4) rfl)
theorem s_B_raiseHw : Cond.selects "InSyncLog$Broker" ⟨"InSyncLog$Broker", "raiseHw", "()V"⟩ ⟨"InSyncLog$Broker", "raiseHw", "()V"⟩ ∈ wsBig := wq1 (List.mem_of_getElem? (i := 5) rfl)
theorem s_L_has : Cond.selects "InSyncLog$Log" ⟨"InSyncLog$Log", "has", "(I)Z"⟩ ⟨"InSyncLog$Log", "has", "(I)Z"⟩ ∈ wsBig := wq1 (List.mem_of_getElem? (i := 6) rfl)
theorem s_L_isMark : Cond.selects "InSyncLog$Log" ⟨"InSyncLog$Log", "isMark", "(I)Z"⟩ ⟨"InSyncLog$Log", "isMark", "(I)Z"⟩ ∈ wsBig := wq1 (List.mem_of_getElem? (i := 7) rfl)
theorem s_L_stampOf : Cond.selects "InSyncLog$Log" ⟨"InSyncLog$Log", "stampOf", "(I)I"⟩ ⟨"InSyncLog$Log", "stampOf", "(I)I"⟩ ∈ wsBig := wq1 (List.mem_of_getElem? (i := 8) rfl)
theorem s_L_valueOf : Cond.selects "InSyncLog$Log" ⟨"InSyncLog$Log", "valueOf", "(I)I"⟩ ⟨"InSyncLog$Log", "valueOf", "(I)I"⟩ ∈ wsBig := wq1 (List.mem_of_getElem? (i := 9) rfl)
theorem s_I_isUp : Cond.selects "InSyncLog" ⟨"InSyncLog", "isUp", "(I)Z"⟩ ⟨"InSyncLog", "isUp", "(I)Z"⟩ ∈ wsBig := wq1 (List.mem_of_getElem? (i := 10) rfl)
theorem s_L_lastEpoch : Cond.selects "InSyncLog$Log" ⟨"InSyncLog$Log", "lastEpoch", "()I"⟩ ⟨"InSyncLog$Log", "lastEpoch", "()I"⟩ ∈ wsBig := wq1 (List.mem_of_getElem? (i := 11) rfl)
theorem s_L_epochOf : Cond.selects "InSyncLog$Log" ⟨"InSyncLog$Log", "epochOf", "(I)I"⟩ ⟨"InSyncLog$Log", "epochOf", "(I)I"⟩ ∈ wsBig := wq1 (List.mem_of_getElem? (i := 12) rfl)
theorem s_H_send : Cond.selects "InSyncLog$Channel" ⟨"InSyncLog$Channel", "send", "(ILInSyncLog$Broker;IIII)LInSyncLog$Message;"⟩ ⟨"InSyncLog$Channel", "send", "(ILInSyncLog$Broker;IIII)LInSyncLog$Message;"⟩ ∈ wsBig := wq1 (List.mem_of_getElem? (i := 13) rfl)
theorem s_H_take : Cond.selects "InSyncLog$Channel" ⟨"InSyncLog$Channel", "take", "(I)LInSyncLog$Message;"⟩ ⟨"InSyncLog$Channel", "take", "(I)LInSyncLog$Message;"⟩ ∈ wsBig := wq1 (List.mem_of_getElem? (i := 14) rfl)
theorem s_H_has : Cond.selects "InSyncLog$Channel" ⟨"InSyncLog$Channel", "has", "(I)Z"⟩ ⟨"InSyncLog$Channel", "has", "(I)Z"⟩ ∈ wsBig := wq1 (List.mem_of_getElem? (i := 15) rfl)
theorem s_I_answer : Cond.selects "InSyncLog" ⟨"InSyncLog", "answer", "(LInSyncLog$Broker;LInSyncLog$Message;)V"⟩ ⟨"InSyncLog", "answer", "(LInSyncLog$Broker;LInSyncLog$Message;)V"⟩ ∈ wsBig := wq2 (List.mem_of_getElem? (i := 0) rfl)
theorem s_L_continues : Cond.selects "InSyncLog$Log" ⟨"InSyncLog$Log", "continues", "(II)Z"⟩ ⟨"InSyncLog$Log", "continues", "(II)Z"⟩ ∈ wsBig := wq2 (List.mem_of_getElem? (i := 1) rfl)
theorem s_B_noteFetched : Cond.selects "InSyncLog$Broker" ⟨"InSyncLog$Broker", "noteFetched", "(III)V"⟩ ⟨"InSyncLog$Broker", "noteFetched", "(III)V"⟩ ∈ wsBig := wq2 (List.mem_of_getElem? (i := 2) rfl)
theorem s_I_sendBatch : Cond.selects "InSyncLog" ⟨"InSyncLog", "sendBatch", "(LInSyncLog$Broker;LInSyncLog$Message;)V"⟩ ⟨"InSyncLog", "sendBatch", "(LInSyncLog$Broker;LInSyncLog$Message;)V"⟩ ∈ wsBig := wq2 (List.mem_of_getElem? (i := 3) rfl)
theorem s_G_copyRecords : Cond.selects "InSyncLog$Message" ⟨"InSyncLog$Message", "copyRecords", "(LInSyncLog$Log;I)V"⟩ ⟨"InSyncLog$Message", "copyRecords", "(LInSyncLog$Log;I)V"⟩ ∈ wsBig := wq2 (List.mem_of_getElem? (i := 4) rfl)
theorem s_I_sendCut : Cond.selects "InSyncLog" ⟨"InSyncLog", "sendCut", "(LInSyncLog$Broker;LInSyncLog$Message;)V"⟩ ⟨"InSyncLog", "sendCut", "(LInSyncLog$Broker;LInSyncLog$Message;)V"⟩ ∈ wsBig := wq2 (List.mem_of_getElem? (i := 5) rfl)
theorem s_L_countUpTo : Cond.selects "InSyncLog$Log" ⟨"InSyncLog$Log", "countUpTo", "(I)I"⟩ ⟨"InSyncLog$Log", "countUpTo", "(I)I"⟩ ∈ wsBig := wq2 (List.mem_of_getElem? (i := 6) rfl)
theorem s_B_accept : Cond.selects "InSyncLog$Broker" ⟨"InSyncLog$Broker", "accept", "(LInSyncLog$Message;)V"⟩ ⟨"InSyncLog$Broker", "accept", "(LInSyncLog$Message;)V"⟩ ∈ wsBig := wq2 (List.mem_of_getElem? (i := 7) rfl)
theorem s_B_isExpecting : Cond.selects "InSyncLog$Broker" ⟨"InSyncLog$Broker", "isExpecting", "(LInSyncLog$Message;)Z"⟩ ⟨"InSyncLog$Broker", "isExpecting", "(LInSyncLog$Message;)Z"⟩ ∈ wsBig := wq2 (List.mem_of_getElem? (i := 8) rfl)
theorem s_L_cutTo : Cond.selects "InSyncLog$Log" ⟨"InSyncLog$Log", "cutTo", "(I)V"⟩ ⟨"InSyncLog$Log", "cutTo", "(I)V"⟩ ∈ wsBig := wq2 (List.mem_of_getElem? (i := 9) rfl)
theorem s_G_appendRecords : Cond.selects "InSyncLog$Message" ⟨"InSyncLog$Message", "appendRecords", "(LInSyncLog$Log;)V"⟩ ⟨"InSyncLog$Message", "appendRecords", "(LInSyncLog$Log;)V"⟩ ∈ wsBig := wq2 (List.mem_of_getElem? (i := 10) rfl)
theorem s_G_word : Cond.selects "InSyncLog$Message" ⟨"InSyncLog$Message", "word", "(I)I"⟩ ⟨"InSyncLog$Message", "word", "(I)I"⟩ ∈ wsBig := wq2 (List.mem_of_getElem? (i := 11) rfl)
theorem s_B_replicasInSync : Cond.selects "InSyncLog$Broker" ⟨"InSyncLog$Broker", "replicasInSync", "(II)I"⟩ ⟨"InSyncLog$Broker", "replicasInSync", "(II)I"⟩ ∈ wsBig := wq2 (List.mem_of_getElem? (i := 12) rfl)
theorem s_B_hasFetchedEnough : Cond.selects "InSyncLog$Broker" ⟨"InSyncLog$Broker", "hasFetchedEnough", "(I)Z"⟩ ⟨"InSyncLog$Broker", "hasFetchedEnough", "(I)Z"⟩ ∈ wsBig := wq2 (List.mem_of_getElem? (i := 13) rfl)
theorem s_B_adopt : Cond.selects "InSyncLog$Broker" ⟨"InSyncLog$Broker", "adopt", "(LInSyncLog$Controller;I)V"⟩ ⟨"InSyncLog$Broker", "adopt", "(LInSyncLog$Controller;I)V"⟩ ∈ wsBig := wq2 (List.mem_of_getElem? (i := 14) rfl)
theorem s_B_goDown : Cond.selects "InSyncLog$Broker" ⟨"InSyncLog$Broker", "goDown", "()V"⟩ ⟨"InSyncLog$Broker", "goDown", "()V"⟩ ∈ wsBig := wq2 (List.mem_of_getElem? (i := 15) rfl)
theorem s_T_reactTo : Cond.selects "InSyncLog$Controller" ⟨"InSyncLog$Controller", "reactTo", "(I)Z"⟩ ⟨"InSyncLog$Controller", "reactTo", "(I)Z"⟩ ∈ wsBig := wq3 (List.mem_of_getElem? (i := 0) rfl)
theorem s_T_begin : Cond.selects "InSyncLog$Controller" ⟨"InSyncLog$Controller", "begin", "(II)Z"⟩ ⟨"InSyncLog$Controller", "begin", "(II)Z"⟩ ∈ wsBig := wq3 (List.mem_of_getElem? (i := 1) rfl)
theorem s_B_fact : Cond.selects "InSyncLog$Broker" ⟨"InSyncLog$Broker", "fact", "(I)I"⟩ ⟨"InSyncLog$Broker", "fact", "(I)I"⟩ ∈ wsBig := wq3 (List.mem_of_getElem? (i := 2) rfl)
theorem s_M_takeOver : Cond.selects "InSyncLogModel" ⟨"InSyncLogModel", "takeOver", "(I)V"⟩ ⟨"InSyncLogModel", "takeOver", "(I)V"⟩ ∈ wsBig := wq3 (List.mem_of_getElem? (i := 3) rfl)
theorem s_M_leads : Cond.selects "InSyncLogModel" ⟨"InSyncLogModel", "leads", "(I)Z"⟩ ⟨"InSyncLogModel", "leads", "(I)Z"⟩ ∈ wsBig := wq3 (List.mem_of_getElem? (i := 4) rfl)
theorem s_M_append : Cond.selects "InSyncLogModel" ⟨"InSyncLogModel", "append", "(IIZ)I"⟩ ⟨"InSyncLogModel", "append", "(IIZ)I"⟩ ∈ wsBig := wq3 (List.mem_of_getElem? (i := 5) rfl)
theorem s_M_syncSize : Cond.selects "InSyncLogModel" ⟨"InSyncLogModel", "syncSize", "(I)I"⟩ ⟨"InSyncLogModel", "syncSize", "(I)I"⟩ ∈ wsBig := wq3 (List.mem_of_getElem? (i := 6) rfl)
theorem s_M_rise : Cond.selects "InSyncLogModel" ⟨"InSyncLogModel", "rise", "(I)V"⟩ ⟨"InSyncLogModel", "rise", "(I)V"⟩ ∈ wsBig := wq3 (List.mem_of_getElem? (i := 7) rfl)
theorem s_M_recordAt : Cond.selects "InSyncLogModel" ⟨"InSyncLogModel", "recordAt", "(II)I"⟩ ⟨"InSyncLogModel", "recordAt", "(II)I"⟩ ∈ wsBig := wq3 (List.mem_of_getElem? (i := 8) rfl)
theorem s_M_upTo : Cond.selects "InSyncLogModel" ⟨"InSyncLogModel", "upTo", "(II)I"⟩ ⟨"InSyncLogModel", "upTo", "(II)I"⟩ ∈ wsBig := wq3 (List.mem_of_getElem? (i := 9) rfl)
theorem s_M_send : Cond.selects "InSyncLogModel" ⟨"InSyncLogModel", "send", "(IIIIIII)Z"⟩ ⟨"InSyncLogModel", "send", "(IIIIIII)Z"⟩ ∈ wsBig := wq3 (List.mem_of_getElem? (i := 10) rfl)
theorem s_M_isMessage : Cond.selects "InSyncLogModel" ⟨"InSyncLogModel", "isMessage", "(I)Z"⟩ ⟨"InSyncLogModel", "isMessage", "(I)Z"⟩ ∈ wsBig := wq3 (List.mem_of_getElem? (i := 11) rfl)
theorem s_M_remove : Cond.selects "InSyncLogModel" ⟨"InSyncLogModel", "remove", "(I)V"⟩ ⟨"InSyncLogModel", "remove", "(I)V"⟩ ∈ wsBig := wq3 (List.mem_of_getElem? (i := 12) rfl)
theorem s_M_move : Cond.selects "InSyncLogModel" ⟨"InSyncLogModel", "move", "(II)V"⟩ ⟨"InSyncLogModel", "move", "(II)V"⟩ ∈ wsBig := wq3 (List.mem_of_getElem? (i := 13) rfl)
theorem s_M_answer : Cond.selects "InSyncLogModel" ⟨"InSyncLogModel", "answer", "(IIII)V"⟩ ⟨"InSyncLogModel", "answer", "(IIII)V"⟩ ∈ wsBig := wq3 (List.mem_of_getElem? (i := 14) rfl)
theorem s_M_underEpoch : Cond.selects "InSyncLogModel" ⟨"InSyncLogModel", "underEpoch", "(II)I"⟩ ⟨"InSyncLogModel", "underEpoch", "(II)I"⟩ ∈ wsBig := wq3 (List.mem_of_getElem? (i := 15) rfl)
theorem s_M_cut : Cond.selects "InSyncLogModel" ⟨"InSyncLogModel", "cut", "(I)V"⟩ ⟨"InSyncLogModel", "cut", "(I)V"⟩ ∈ wsBig := wq4 (List.mem_of_getElem? (i := 0) rfl)
theorem s_M_extend : Cond.selects "InSyncLogModel" ⟨"InSyncLogModel", "extend", "(I)V"⟩ ⟨"InSyncLogModel", "extend", "(I)V"⟩ ∈ wsBig := wq4 (List.mem_of_getElem? (i := 1) rfl)
theorem s_M_bits : Cond.selects "InSyncLogModel" ⟨"InSyncLogModel", "bits", "(ZI)I"⟩ ⟨"InSyncLogModel", "bits", "(ZI)I"⟩ ∈ wsBig := wq4 (List.mem_of_getElem? (i := 2) rfl)
theorem s_M_alive : Cond.selects "InSyncLogModel" ⟨"InSyncLogModel", "alive", "(II)Z"⟩ ⟨"InSyncLogModel", "alive", "(II)Z"⟩ ∈ wsBig := wq4 (List.mem_of_getElem? (i := 3) rfl)
def T_B : u_T := fun k => match k with
  | 0 => ("InSyncLog$Broker", "id", "I", true)
  | 1 => ("InSyncLog$Broker", "log", "LInSyncLog$Log;", true)
  | 2 => ("InSyncLog$Broker", "fetched", "[I", true)
  | 3 => ("InSyncLog$Broker", "caughtUp", "[I", true)
  | 4 => ("InSyncLog$Broker", "up", "Z", false)
  | 5 => ("InSyncLog$Broker", "epoch", "I", false)
  | 6 => ("InSyncLog$Broker", "leader", "I", false)
  | 7 => ("InSyncLog$Broker", "hw", "I", false)
  | 8 => ("InSyncLog$Broker", "fetches", "I", false)
  | 9 => ("InSyncLog$Broker", "awaits", "Z", false)
  | 10 => ("InSyncLog$Broker", "start", "I", false)
  | _ => ("InSyncLog$Broker", "sync", "I", false)
def ty_B : Nat → FieldType := fun k => match k with
  | 0 => .int
  | 1 => .object "InSyncLog$Log"
  | 2 => .array .int
  | 3 => .array .int
  | 4 => .boolean
  | 5 => .int
  | 6 => .int
  | 7 => .int
  | 8 => .int
  | 9 => .boolean
  | 10 => .int
  | _ => .int
theorem nm_B : ∀ a, a < 12 → ∀ b, b < 12 → a ≠ b → (T_B a).2.1 ≠ (T_B b).2.1 := by decide +kernel
theorem ty_B_ok : ∀ k, k < 12 → parseFieldDescriptor (T_B k).2.2.1 = some (ty_B k) := by decide +kernel
theorem in_B : ∀ w ∈ u_ws "InSyncLog$Broker" T_B 12, w ∈ wsBig := by
  show ∀ w ∈ [u_lay "InSyncLog$Broker" T_B 0, u_lay "InSyncLog$Broker" T_B 1, u_lay "InSyncLog$Broker" T_B 2, u_lay "InSyncLog$Broker" T_B 3, u_lay "InSyncLog$Broker" T_B 4, u_lay "InSyncLog$Broker" T_B 5, u_lay "InSyncLog$Broker" T_B 6, u_lay "InSyncLog$Broker" T_B 7, u_lay "InSyncLog$Broker" T_B 8, u_lay "InSyncLog$Broker" T_B 9, u_lay "InSyncLog$Broker" T_B 10, u_lay "InSyncLog$Broker" T_B 11], w ∈ wsBig
  exact List.forall_mem_cons.mpr ⟨w170, List.forall_mem_cons.mpr ⟨w172, List.forall_mem_cons.mpr ⟨w174, List.forall_mem_cons.mpr ⟨w176, List.forall_mem_cons.mpr ⟨w178, List.forall_mem_cons.mpr ⟨w180, List.forall_mem_cons.mpr ⟨w182, List.forall_mem_cons.mpr ⟨w184, List.forall_mem_cons.mpr ⟨w186, List.forall_mem_cons.mpr ⟨w188, List.forall_mem_cons.mpr ⟨w190, List.forall_mem_cons.mpr ⟨w192, fun _ h => absurd h List.not_mem_nil⟩⟩⟩⟩⟩⟩⟩⟩⟩⟩⟩⟩
def T_H : u_T := fun k => match k with
  | 0 => ("InSyncLog$Channel", "slots", "[LInSyncLog$Message;", true)
  | _ => ("InSyncLog$Channel", "count", "I", false)
def ty_H : Nat → FieldType := fun k => match k with
  | 0 => .array (.object "InSyncLog$Message")
  | _ => .int
theorem nm_H : ∀ a, a < 2 → ∀ b, b < 2 → a ≠ b → (T_H a).2.1 ≠ (T_H b).2.1 := by decide +kernel
theorem ty_H_ok : ∀ k, k < 2 → parseFieldDescriptor (T_H k).2.2.1 = some (ty_H k) := by decide +kernel
theorem in_H : ∀ w ∈ u_ws "InSyncLog$Channel" T_H 2, w ∈ wsBig := by
  show ∀ w ∈ [u_lay "InSyncLog$Channel" T_H 0, u_lay "InSyncLog$Channel" T_H 1], w ∈ wsBig
  exact List.forall_mem_cons.mpr ⟨w115, List.forall_mem_cons.mpr ⟨w117, fun _ h => absurd h List.not_mem_nil⟩⟩
def T_T : u_T := fun k => match k with
  | 0 => ("InSyncLog$Controller", "epoch", "I", false)
  | 1 => ("InSyncLog$Controller", "leader", "I", false)
  | _ => ("InSyncLog$Controller", "isr", "I", false)
def ty_T : Nat → FieldType := fun k => match k with
  | 0 => .int
  | 1 => .int
  | _ => .int
theorem nm_T : ∀ a, a < 3 → ∀ b, b < 3 → a ≠ b → (T_T a).2.1 ≠ (T_T b).2.1 := by decide +kernel
theorem ty_T_ok : ∀ k, k < 3 → parseFieldDescriptor (T_T k).2.2.1 = some (ty_T k) := by decide +kernel
theorem in_T : ∀ w ∈ u_ws "InSyncLog$Controller" T_T 3, w ∈ wsBig := by
  show ∀ w ∈ [u_lay "InSyncLog$Controller" T_T 0, u_lay "InSyncLog$Controller" T_T 1, u_lay "InSyncLog$Controller" T_T 2], w ∈ wsBig
  exact List.forall_mem_cons.mpr ⟨w43, List.forall_mem_cons.mpr ⟨w45, List.forall_mem_cons.mpr ⟨w47, fun _ h => absurd h List.not_mem_nil⟩⟩⟩
def T_L : u_T := fun k => match k with
  | 0 => ("InSyncLog$Log", "stamps", "[I", true)
  | 1 => ("InSyncLog$Log", "values", "[I", true)
  | _ => ("InSyncLog$Log", "end", "I", false)
def ty_L : Nat → FieldType := fun k => match k with
  | 0 => .array .int
  | 1 => .array .int
  | _ => .int
theorem nm_L : ∀ a, a < 3 → ∀ b, b < 3 → a ≠ b → (T_L a).2.1 ≠ (T_L b).2.1 := by decide +kernel
theorem ty_L_ok : ∀ k, k < 3 → parseFieldDescriptor (T_L k).2.2.1 = some (ty_L k) := by decide +kernel
theorem in_L : ∀ w ∈ u_ws "InSyncLog$Log" T_L 3, w ∈ wsBig := by
  show ∀ w ∈ [u_lay "InSyncLog$Log" T_L 0, u_lay "InSyncLog$Log" T_L 1, u_lay "InSyncLog$Log" T_L 2], w ∈ wsBig
  exact List.forall_mem_cons.mpr ⟨w138, List.forall_mem_cons.mpr ⟨w140, List.forall_mem_cons.mpr ⟨w142, fun _ h => absurd h List.not_mem_nil⟩⟩⟩
def T_G : u_T := fun k => match k with
  | 0 => ("InSyncLog$Message", "stamps", "[I", true)
  | 1 => ("InSyncLog$Message", "values", "[I", true)
  | 2 => ("InSyncLog$Message", "kind", "I", false)
  | 3 => ("InSyncLog$Message", "from", "I", false)
  | 4 => ("InSyncLog$Message", "to", "I", false)
  | 5 => ("InSyncLog$Message", "epoch", "I", false)
  | 6 => ("InSyncLog$Message", "number", "I", false)
  | 7 => ("InSyncLog$Message", "size", "I", false)
  | _ => ("InSyncLog$Message", "tail", "I", false)
def ty_G : Nat → FieldType := fun k => match k with
  | 0 => .array .int
  | 1 => .array .int
  | 2 => .int
  | 3 => .int
  | 4 => .int
  | 5 => .int
  | 6 => .int
  | 7 => .int
  | _ => .int
theorem nm_G : ∀ a, a < 9 → ∀ b, b < 9 → a ≠ b → (T_G a).2.1 ≠ (T_G b).2.1 := by decide +kernel
theorem ty_G_ok : ∀ k, k < 9 → parseFieldDescriptor (T_G k).2.2.1 = some (ty_G k) := by decide +kernel
theorem in_G : ∀ w ∈ u_ws "InSyncLog$Message" T_G 9, w ∈ wsBig := by
  show ∀ w ∈ [u_lay "InSyncLog$Message" T_G 0, u_lay "InSyncLog$Message" T_G 1, u_lay "InSyncLog$Message" T_G 2, u_lay "InSyncLog$Message" T_G 3, u_lay "InSyncLog$Message" T_G 4, u_lay "InSyncLog$Message" T_G 5, u_lay "InSyncLog$Message" T_G 6, u_lay "InSyncLog$Message" T_G 7, u_lay "InSyncLog$Message" T_G 8], w ∈ wsBig
  exact List.forall_mem_cons.mpr ⟨w91, List.forall_mem_cons.mpr ⟨w93, List.forall_mem_cons.mpr ⟨w95, List.forall_mem_cons.mpr ⟨w97, List.forall_mem_cons.mpr ⟨w99, List.forall_mem_cons.mpr ⟨w101, List.forall_mem_cons.mpr ⟨w103, List.forall_mem_cons.mpr ⟨w105, List.forall_mem_cons.mpr ⟨w107, fun _ h => absurd h List.not_mem_nil⟩⟩⟩⟩⟩⟩⟩⟩⟩
def T_I : u_T := fun k => match k with
  | 0 => ("InSyncLog", "lag", "I", true)
  | 1 => ("InSyncLog", "batch", "I", true)
  | 2 => ("InSyncLog", "least", "I", true)
  | 3 => ("InSyncLog", "brokers", "[LInSyncLog$Broker;", true)
  | 4 => ("InSyncLog", "control", "LInSyncLog$Controller;", true)
  | 5 => ("InSyncLog", "channel", "LInSyncLog$Channel;", true)
  | _ => ("InSyncLog", "time", "I", false)
def ty_I : Nat → FieldType := fun k => match k with
  | 0 => .int
  | 1 => .int
  | 2 => .int
  | 3 => .array (.object "InSyncLog$Broker")
  | 4 => .object "InSyncLog$Controller"
  | 5 => .object "InSyncLog$Channel"
  | _ => .int
theorem nm_I : ∀ a, a < 7 → ∀ b, b < 7 → a ≠ b → (T_I a).2.1 ≠ (T_I b).2.1 := by decide +kernel
theorem ty_I_ok : ∀ k, k < 7 → parseFieldDescriptor (T_I k).2.2.1 = some (ty_I k) := by decide +kernel
theorem in_I : ∀ w ∈ u_ws "InSyncLog" T_I 7, w ∈ wsBig := by
  show ∀ w ∈ [u_lay "InSyncLog" T_I 0, u_lay "InSyncLog" T_I 1, u_lay "InSyncLog" T_I 2, u_lay "InSyncLog" T_I 3, u_lay "InSyncLog" T_I 4, u_lay "InSyncLog" T_I 5, u_lay "InSyncLog" T_I 6], w ∈ wsBig
  exact List.forall_mem_cons.mpr ⟨w202, List.forall_mem_cons.mpr ⟨w204, List.forall_mem_cons.mpr ⟨w206, List.forall_mem_cons.mpr ⟨w208, List.forall_mem_cons.mpr ⟨w210, List.forall_mem_cons.mpr ⟨w212, List.forall_mem_cons.mpr ⟨w214, fun _ h => absurd h List.not_mem_nil⟩⟩⟩⟩⟩⟩⟩
def T_M : u_T := fun k => match k with
  | 0 => ("InSyncLogModel", "lag", "I", true)
  | 1 => ("InSyncLogModel", "batch", "I", true)
  | 2 => ("InSyncLogModel", "least", "I", true)
  | 3 => ("InSyncLogModel", "time", "I", false)
  | 4 => ("InSyncLogModel", "epoch", "I", false)
  | 5 => ("InSyncLogModel", "leader", "I", false)
  | 6 => ("InSyncLogModel", "inSync", "[Z", true)
  | 7 => ("InSyncLogModel", "records", "I", false)
  | 8 => ("InSyncLogModel", "before", "[I", true)
  | 9 => ("InSyncLogModel", "depth", "[I", true)
  | 10 => ("InSyncLogModel", "recordEpoch", "[I", true)
  | 11 => ("InSyncLogModel", "recordValue", "[I", true)
  | 12 => ("InSyncLogModel", "recordMark", "[Z", true)
  | 13 => ("InSyncLogModel", "last", "[I", true)
  | 14 => ("InSyncLogModel", "high", "[I", true)
  | 15 => ("InSyncLogModel", "up", "[Z", true)
  | 16 => ("InSyncLogModel", "knownEpoch", "[I", true)
  | 17 => ("InSyncLogModel", "knownLeader", "[I", true)
  | 18 => ("InSyncLogModel", "latest", "[I", true)
  | 19 => ("InSyncLogModel", "awaited", "[Z", true)
  | 20 => ("InSyncLogModel", "sync", "[Z", true)
  | 21 => ("InSyncLogModel", "fetched", "[I", true)
  | 22 => ("InSyncLogModel", "caught", "[I", true)
  | 23 => ("InSyncLogModel", "start", "[I", true)
  | 24 => ("InSyncLogModel", "count", "I", false)
  | 25 => ("InSyncLogModel", "kind", "[I", true)
  | 26 => ("InSyncLogModel", "from", "[I", true)
  | 27 => ("InSyncLogModel", "to", "[I", true)
  | 28 => ("InSyncLogModel", "bears", "[I", true)
  | 29 => ("InSyncLogModel", "number", "[I", true)
  | 30 => ("InSyncLogModel", "five", "[I", true)
  | 31 => ("InSyncLogModel", "six", "[I", true)
  | 32 => ("InSyncLogModel", "load", "[I", true)
  | _ => ("InSyncLogModel", "now", "[I", true)
def ty_M : Nat → FieldType := fun k => match k with
  | 0 => .int
  | 1 => .int
  | 2 => .int
  | 3 => .int
  | 4 => .int
  | 5 => .int
  | 6 => .array .boolean
  | 7 => .int
  | 8 => .array .int
  | 9 => .array .int
  | 10 => .array .int
  | 11 => .array .int
  | 12 => .array .boolean
  | 13 => .array .int
  | 14 => .array .int
  | 15 => .array .boolean
  | 16 => .array .int
  | 17 => .array .int
  | 18 => .array .int
  | 19 => .array .boolean
  | 20 => .array .boolean
  | 21 => .array .int
  | 22 => .array .int
  | 23 => .array .int
  | 24 => .int
  | 25 => .array .int
  | 26 => .array .int
  | 27 => .array .int
  | 28 => .array .int
  | 29 => .array .int
  | 30 => .array .int
  | 31 => .array .int
  | 32 => .array .int
  | _ => .array .int
theorem nm_M : ∀ a, a < 34 → ∀ b, b < 34 → a ≠ b → (T_M a).2.1 ≠ (T_M b).2.1 := by decide +kernel
theorem ty_M_ok : ∀ k, k < 34 → parseFieldDescriptor (T_M k).2.2.1 = some (ty_M k) := by decide +kernel
theorem in_M : ∀ w ∈ u_ws "InSyncLogModel" T_M 34, w ∈ wsBig := by
  show ∀ w ∈ [u_lay "InSyncLogModel" T_M 0, u_lay "InSyncLogModel" T_M 1, u_lay "InSyncLogModel" T_M 2, u_lay "InSyncLogModel" T_M 3, u_lay "InSyncLogModel" T_M 4, u_lay "InSyncLogModel" T_M 5, u_lay "InSyncLogModel" T_M 6, u_lay "InSyncLogModel" T_M 7, u_lay "InSyncLogModel" T_M 8, u_lay "InSyncLogModel" T_M 9, u_lay "InSyncLogModel" T_M 10, u_lay "InSyncLogModel" T_M 11, u_lay "InSyncLogModel" T_M 12, u_lay "InSyncLogModel" T_M 13, u_lay "InSyncLogModel" T_M 14, u_lay "InSyncLogModel" T_M 15, u_lay "InSyncLogModel" T_M 16, u_lay "InSyncLogModel" T_M 17, u_lay "InSyncLogModel" T_M 18, u_lay "InSyncLogModel" T_M 19, u_lay "InSyncLogModel" T_M 20, u_lay "InSyncLogModel" T_M 21, u_lay "InSyncLogModel" T_M 22, u_lay "InSyncLogModel" T_M 23, u_lay "InSyncLogModel" T_M 24, u_lay "InSyncLogModel" T_M 25, u_lay "InSyncLogModel" T_M 26, u_lay "InSyncLogModel" T_M 27, u_lay "InSyncLogModel" T_M 28, u_lay "InSyncLogModel" T_M 29, u_lay "InSyncLogModel" T_M 30, u_lay "InSyncLogModel" T_M 31, u_lay "InSyncLogModel" T_M 32, u_lay "InSyncLogModel" T_M 33], w ∈ wsBig
  exact List.forall_mem_cons.mpr ⟨w514, List.forall_mem_cons.mpr ⟨w516, List.forall_mem_cons.mpr ⟨w518, List.forall_mem_cons.mpr ⟨w520, List.forall_mem_cons.mpr ⟨w522, List.forall_mem_cons.mpr ⟨w524, List.forall_mem_cons.mpr ⟨w526, List.forall_mem_cons.mpr ⟨w528, List.forall_mem_cons.mpr ⟨w530, List.forall_mem_cons.mpr ⟨w532, List.forall_mem_cons.mpr ⟨w534, List.forall_mem_cons.mpr ⟨w536, List.forall_mem_cons.mpr ⟨w538, List.forall_mem_cons.mpr ⟨w540, List.forall_mem_cons.mpr ⟨w542, List.forall_mem_cons.mpr ⟨w544, List.forall_mem_cons.mpr ⟨w546, List.forall_mem_cons.mpr ⟨w548, List.forall_mem_cons.mpr ⟨w550, List.forall_mem_cons.mpr ⟨w552, List.forall_mem_cons.mpr ⟨w554, List.forall_mem_cons.mpr ⟨w556, List.forall_mem_cons.mpr ⟨w558, List.forall_mem_cons.mpr ⟨w560, List.forall_mem_cons.mpr ⟨w562, List.forall_mem_cons.mpr ⟨w564, List.forall_mem_cons.mpr ⟨w566, List.forall_mem_cons.mpr ⟨w568, List.forall_mem_cons.mpr ⟨w570, List.forall_mem_cons.mpr ⟨w572, List.forall_mem_cons.mpr ⟨w574, List.forall_mem_cons.mpr ⟨w576, List.forall_mem_cons.mpr ⟨w578, List.forall_mem_cons.mpr ⟨w580, fun _ h => absurd h List.not_mem_nil⟩⟩⟩⟩⟩⟩⟩⟩⟩⟩⟩⟩⟩⟩⟩⟩⟩⟩⟩⟩⟩⟩⟩⟩⟩⟩⟩⟩⟩⟩⟩⟩⟩⟩
abbrev xcl : List vw_C := [("InSyncLog$Broker", T_B, 12), ("InSyncLog$Channel", T_H, 2), ("InSyncLog$Controller", T_T, 3), ("InSyncLog$Log", T_L, 3), ("InSyncLog$Message", T_G, 9), ("InSyncLog", T_I, 7), ("InSyncLogModel", T_M, 34)]
abbrev y_I_init : MethodName := ⟨"InSyncLog", "<init>", "(III)V"⟩
abbrev y_Obj_init : MethodName := ⟨"java/lang/Object", "<init>", "()V"⟩
abbrev y_I_nearest : MethodName := ⟨"InSyncLog", "nearest", "(III)I"⟩
abbrev y_Math_min : MethodName := ⟨"java/lang/Math", "min", "(II)I"⟩
abbrev y_Math_max : MethodName := ⟨"java/lang/Math", "max", "(II)I"⟩
abbrev y_T_init : MethodName := ⟨"InSyncLog$Controller", "<init>", "()V"⟩
abbrev y_H_init : MethodName := ⟨"InSyncLog$Channel", "<init>", "()V"⟩
abbrev y_G_init : MethodName := ⟨"InSyncLog$Message", "<init>", "()V"⟩
abbrev y_B_init : MethodName := ⟨"InSyncLog$Broker", "<init>", "(I)V"⟩
abbrev y_L_init : MethodName := ⟨"InSyncLog$Log", "<init>", "()V"⟩
abbrev y_Arr_fill : MethodName := ⟨"java/util/Arrays", "fill", "([II)V"⟩
abbrev y_I_produce : MethodName := ⟨"InSyncLog", "produce", "(II)I"⟩
abbrev y_I_isLeading : MethodName := ⟨"InSyncLog", "isLeading", "(I)Z"⟩
abbrev y_I_isBroker : MethodName := ⟨"InSyncLog", "isBroker", "(I)Z"⟩
abbrev y_B_leads : MethodName := ⟨"InSyncLog$Broker", "leads", "()Z"⟩
abbrev y_I_append : MethodName := ⟨"InSyncLog", "append", "(LInSyncLog$Broker;II)I"⟩
abbrev y_L_isFull : MethodName := ⟨"InSyncLog$Log", "isFull", "()Z"⟩
abbrev y_Int_bitCount : MethodName := ⟨"java/lang/Integer", "bitCount", "(I)I"⟩
abbrev y_L_add : MethodName := ⟨"InSyncLog$Log", "add", "(II)V"⟩
abbrev y_B_raiseHw : MethodName := ⟨"InSyncLog$Broker", "raiseHw", "()V"⟩
abbrev y_I_contains : MethodName := ⟨"InSyncLog", "contains", "(II)Z"⟩
abbrev y_I_commit : MethodName := ⟨"InSyncLog", "commit", "(II)I"⟩
abbrev y_I_readable : MethodName := ⟨"InSyncLog", "readable", "(II)I"⟩
abbrev y_L_has : MethodName := ⟨"InSyncLog$Log", "has", "(I)Z"⟩
abbrev y_L_isMark : MethodName := ⟨"InSyncLog$Log", "isMark", "(I)Z"⟩
abbrev y_L_stampOf : MethodName := ⟨"InSyncLog$Log", "stampOf", "(I)I"⟩
abbrev y_I_committed : MethodName := ⟨"InSyncLog", "committed", "(I)I"⟩
abbrev y_L_valueOf : MethodName := ⟨"InSyncLog$Log", "valueOf", "(I)I"⟩
abbrev y_I_fetch : MethodName := ⟨"InSyncLog", "fetch", "(I)Z"⟩
abbrev y_I_isUp : MethodName := ⟨"InSyncLog", "isUp", "(I)Z"⟩
abbrev y_L_lastEpoch : MethodName := ⟨"InSyncLog$Log", "lastEpoch", "()I"⟩
abbrev y_L_epochOf : MethodName := ⟨"InSyncLog$Log", "epochOf", "(I)I"⟩
abbrev y_Math_abs : MethodName := ⟨"java/lang/Math", "abs", "(I)I"⟩
abbrev y_H_send : MethodName := ⟨"InSyncLog$Channel", "send", "(ILInSyncLog$Broker;IIII)LInSyncLog$Message;"⟩
abbrev y_I_deliver : MethodName := ⟨"InSyncLog", "deliver", "(I)Z"⟩
abbrev y_H_take : MethodName := ⟨"InSyncLog$Channel", "take", "(I)LInSyncLog$Message;"⟩
abbrev y_H_has : MethodName := ⟨"InSyncLog$Channel", "has", "(I)Z"⟩
abbrev y_I_answer : MethodName := ⟨"InSyncLog", "answer", "(LInSyncLog$Broker;LInSyncLog$Message;)V"⟩
abbrev y_L_continues : MethodName := ⟨"InSyncLog$Log", "continues", "(II)Z"⟩
abbrev y_B_noteFetched : MethodName := ⟨"InSyncLog$Broker", "noteFetched", "(III)V"⟩
abbrev y_I_sendBatch : MethodName := ⟨"InSyncLog", "sendBatch", "(LInSyncLog$Broker;LInSyncLog$Message;)V"⟩
abbrev y_G_copyRecords : MethodName := ⟨"InSyncLog$Message", "copyRecords", "(LInSyncLog$Log;I)V"⟩
abbrev y_I_sendCut : MethodName := ⟨"InSyncLog", "sendCut", "(LInSyncLog$Broker;LInSyncLog$Message;)V"⟩
abbrev y_L_countUpTo : MethodName := ⟨"InSyncLog$Log", "countUpTo", "(I)I"⟩
abbrev y_B_accept : MethodName := ⟨"InSyncLog$Broker", "accept", "(LInSyncLog$Message;)V"⟩
abbrev y_B_isExpecting : MethodName := ⟨"InSyncLog$Broker", "isExpecting", "(LInSyncLog$Message;)Z"⟩
abbrev y_L_cutTo : MethodName := ⟨"InSyncLog$Log", "cutTo", "(I)V"⟩
abbrev y_G_appendRecords : MethodName := ⟨"InSyncLog$Message", "appendRecords", "(LInSyncLog$Log;)V"⟩
abbrev y_I_lose : MethodName := ⟨"InSyncLog", "lose", "(I)Z"⟩
abbrev y_I_flight : MethodName := ⟨"InSyncLog", "flight", "()I"⟩
abbrev y_I_message : MethodName := ⟨"InSyncLog", "message", "(II)I"⟩
abbrev y_G_word : MethodName := ⟨"InSyncLog$Message", "word", "(I)I"⟩
abbrev y_I_review : MethodName := ⟨"InSyncLog", "review", "(I)I"⟩
abbrev y_B_replicasInSync : MethodName := ⟨"InSyncLog$Broker", "replicasInSync", "(II)I"⟩
abbrev y_B_hasFetchedEnough : MethodName := ⟨"InSyncLog$Broker", "hasFetchedEnough", "(I)Z"⟩
abbrev y_I_learn : MethodName := ⟨"InSyncLog", "learn", "(I)Z"⟩
abbrev y_B_adopt : MethodName := ⟨"InSyncLog$Broker", "adopt", "(LInSyncLog$Controller;I)V"⟩
abbrev y_I_crash : MethodName := ⟨"InSyncLog", "crash", "(I)Z"⟩
abbrev y_B_goDown : MethodName := ⟨"InSyncLog$Broker", "goDown", "()V"⟩
abbrev y_I_restart : MethodName := ⟨"InSyncLog", "restart", "(I)Z"⟩
abbrev y_I_govern : MethodName := ⟨"InSyncLog", "govern", "(I)Z"⟩
abbrev y_T_reactTo : MethodName := ⟨"InSyncLog$Controller", "reactTo", "(I)Z"⟩
abbrev y_T_begin : MethodName := ⟨"InSyncLog$Controller", "begin", "(II)Z"⟩
abbrev y_I_leastOf : MethodName := ⟨"InSyncLog", "leastOf", "(I)I"⟩
abbrev y_I_tick : MethodName := ⟨"InSyncLog", "tick", "(I)Z"⟩
abbrev y_I_controller : MethodName := ⟨"InSyncLog", "controller", "(I)I"⟩
abbrev y_I_broker : MethodName := ⟨"InSyncLog", "broker", "(II)I"⟩
abbrev y_B_fact : MethodName := ⟨"InSyncLog$Broker", "fact", "(I)I"⟩
abbrev y_I_epochAt : MethodName := ⟨"InSyncLog", "epochAt", "(II)I"⟩
abbrev y_I_valueAt : MethodName := ⟨"InSyncLog", "valueAt", "(II)I"⟩
abbrev y_W_cell : MethodName := ⟨"InSyncLogLaw", "cell", "([II)I"⟩
abbrev y_M_init : MethodName := ⟨"InSyncLogModel", "<init>", "(III)V"⟩
abbrev y_M_takeOver : MethodName := ⟨"InSyncLogModel", "takeOver", "(I)V"⟩
abbrev y_M_produce : MethodName := ⟨"InSyncLogModel", "produce", "(II)I"⟩
abbrev y_M_leads : MethodName := ⟨"InSyncLogModel", "leads", "(I)Z"⟩
abbrev y_M_isBroker : MethodName := ⟨"InSyncLogModel", "isBroker", "(I)Z"⟩
abbrev y_M_append : MethodName := ⟨"InSyncLogModel", "append", "(IIZ)I"⟩
abbrev y_M_syncSize : MethodName := ⟨"InSyncLogModel", "syncSize", "(I)I"⟩
abbrev y_M_rise : MethodName := ⟨"InSyncLogModel", "rise", "(I)V"⟩
abbrev y_M_commit : MethodName := ⟨"InSyncLogModel", "commit", "(II)I"⟩
abbrev y_M_readable : MethodName := ⟨"InSyncLogModel", "readable", "(II)I"⟩
abbrev y_M_recordAt : MethodName := ⟨"InSyncLogModel", "recordAt", "(II)I"⟩
abbrev y_M_upTo : MethodName := ⟨"InSyncLogModel", "upTo", "(II)I"⟩
abbrev y_M_committed : MethodName := ⟨"InSyncLogModel", "committed", "(I)I"⟩
abbrev y_M_epochAt : MethodName := ⟨"InSyncLogModel", "epochAt", "(II)I"⟩
abbrev y_M_valueAt : MethodName := ⟨"InSyncLogModel", "valueAt", "(II)I"⟩
abbrev y_M_fetch : MethodName := ⟨"InSyncLogModel", "fetch", "(I)Z"⟩
abbrev y_M_send : MethodName := ⟨"InSyncLogModel", "send", "(IIIIIII)Z"⟩
abbrev y_M_lose : MethodName := ⟨"InSyncLogModel", "lose", "(I)Z"⟩
abbrev y_M_isMessage : MethodName := ⟨"InSyncLogModel", "isMessage", "(I)Z"⟩
abbrev y_M_remove : MethodName := ⟨"InSyncLogModel", "remove", "(I)V"⟩
abbrev y_M_move : MethodName := ⟨"InSyncLogModel", "move", "(II)V"⟩
abbrev y_M_flight : MethodName := ⟨"InSyncLogModel", "flight", "()I"⟩
abbrev y_M_message : MethodName := ⟨"InSyncLogModel", "message", "(II)I"⟩
abbrev y_M_deliver : MethodName := ⟨"InSyncLogModel", "deliver", "(I)Z"⟩
abbrev y_M_answer : MethodName := ⟨"InSyncLogModel", "answer", "(IIII)V"⟩
abbrev y_M_underEpoch : MethodName := ⟨"InSyncLogModel", "underEpoch", "(II)I"⟩
abbrev y_M_cut : MethodName := ⟨"InSyncLogModel", "cut", "(I)V"⟩
abbrev y_M_extend : MethodName := ⟨"InSyncLogModel", "extend", "(I)V"⟩
abbrev y_M_review : MethodName := ⟨"InSyncLogModel", "review", "(I)I"⟩
abbrev y_M_bits : MethodName := ⟨"InSyncLogModel", "bits", "(ZI)I"⟩
abbrev y_M_learn : MethodName := ⟨"InSyncLogModel", "learn", "(I)Z"⟩
abbrev y_M_crash : MethodName := ⟨"InSyncLogModel", "crash", "(I)Z"⟩
abbrev y_M_restart : MethodName := ⟨"InSyncLogModel", "restart", "(I)Z"⟩
abbrev y_M_govern : MethodName := ⟨"InSyncLogModel", "govern", "(I)Z"⟩
abbrev y_M_alive : MethodName := ⟨"InSyncLogModel", "alive", "(II)Z"⟩
abbrev y_M_tick : MethodName := ⟨"InSyncLogModel", "tick", "(I)Z"⟩
abbrev y_M_controller : MethodName := ⟨"InSyncLogModel", "controller", "(I)I"⟩
abbrev y_M_broker : MethodName := ⟨"InSyncLogModel", "broker", "(II)I"⟩
