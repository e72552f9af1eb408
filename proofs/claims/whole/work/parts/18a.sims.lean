def Sim_produce : Prop := ∀ (k : Nat) (G : Nat → Nat → Int32) (P : Nat → Nat) (U : Nat → Nat → Int32) (x1 x2 : Int32), k + 1 ≤ 512 → Inv k G P U → (f_I_produce x1 x2 G).1 = (f_M_produce x1 x2 U).1 ∧ Inv (k + 1) ((f_I_produce x1 x2 G).2) P ((f_M_produce x1 x2 U).2)
def Sim_commit : Prop := ∀ (k : Nat) (G : Nat → Nat → Int32) (P : Nat → Nat) (U : Nat → Nat → Int32) (x1 x2 : Int32), k + 1 ≤ 512 → Inv k G P U → (f_I_commit x1 x2 G).1 = (f_M_commit x1 x2 U).1 ∧ Inv (k + 1) ((f_I_commit x1 x2 G).2) P ((f_M_commit x1 x2 U).2)
def Sim_readable : Prop := ∀ (k : Nat) (G : Nat → Nat → Int32) (P : Nat → Nat) (U : Nat → Nat → Int32) (x1 x2 : Int32), k + 1 ≤ 512 → Inv k G P U → (f_I_readable x1 x2 G) = (f_M_readable x1 x2 U) ∧ Inv (k + 1) G P U
def Sim_committed : Prop := ∀ (k : Nat) (G : Nat → Nat → Int32) (P : Nat → Nat) (U : Nat → Nat → Int32) (x1 x2 : Int32), k + 1 ≤ 512 → Inv k G P U → (f_I_committed x1 G) = (f_M_committed x1 U) ∧ Inv (k + 1) G P U
def Sim_fetch : Prop := ∀ (k : Nat) (G : Nat → Nat → Int32) (P : Nat → Nat) (U : Nat → Nat → Int32) (x1 x2 : Int32), k + 1 ≤ 512 → Inv k G P U → (f_I_fetch x1 G P).1 = (f_M_fetch x1 U).1 ∧ Inv (k + 1) ((f_I_fetch x1 G P).2) P ((f_M_fetch x1 U).2)
def Sim_deliver : Prop := ∀ (k : Nat) (G : Nat → Nat → Int32) (P : Nat → Nat) (U : Nat → Nat → Int32) (x1 x2 : Int32), k + 1 ≤ 512 → Inv k G P U → (f_I_deliver x1 G P).1 = (f_M_deliver x1 U).1 ∧ Inv (k + 1) ((f_I_deliver x1 G P).2.1) ((f_I_deliver x1 G P).2.2) ((f_M_deliver x1 U).2)
def Sim_lose : Prop := ∀ (k : Nat) (G : Nat → Nat → Int32) (P : Nat → Nat) (U : Nat → Nat → Int32) (x1 x2 : Int32), k + 1 ≤ 512 → Inv k G P U → (f_I_lose x1 G P).1 = (f_M_lose x1 U).1 ∧ Inv (k + 1) ((f_I_lose x1 G P).2.1) ((f_I_lose x1 G P).2.2) ((f_M_lose x1 U).2)
def Sim_flight : Prop := ∀ (k : Nat) (G : Nat → Nat → Int32) (P : Nat → Nat) (U : Nat → Nat → Int32) (x1 x2 : Int32), k + 1 ≤ 512 → Inv k G P U → (f_I_flight G) = (f_M_flight U) ∧ Inv (k + 1) G P U
def Sim_message : Prop := ∀ (k : Nat) (G : Nat → Nat → Int32) (P : Nat → Nat) (U : Nat → Nat → Int32) (x1 x2 : Int32), k + 1 ≤ 512 → Inv k G P U → (f_I_message x1 x2 G P) = (f_M_message x1 x2 U) ∧ Inv (k + 1) G P U
def Sim_review : Prop := ∀ (k : Nat) (G : Nat → Nat → Int32) (P : Nat → Nat) (U : Nat → Nat → Int32) (x1 x2 : Int32), k + 1 ≤ 512 → Inv k G P U → (f_I_review x1 G).1 = (f_M_review x1 U).1 ∧ Inv (k + 1) ((f_I_review x1 G).2) P ((f_M_review x1 U).2)
def Sim_learn : Prop := ∀ (k : Nat) (G : Nat → Nat → Int32) (P : Nat → Nat) (U : Nat → Nat → Int32) (x1 x2 : Int32), k + 1 ≤ 512 → Inv k G P U → (f_I_learn x1 G).1 = (f_M_learn x1 U).1 ∧ Inv (k + 1) ((f_I_learn x1 G).2) P ((f_M_learn x1 U).2)
def Sim_crash : Prop := ∀ (k : Nat) (G : Nat → Nat → Int32) (P : Nat → Nat) (U : Nat → Nat → Int32) (x1 x2 : Int32), k + 1 ≤ 512 → Inv k G P U → (f_I_crash x1 G).1 = (f_M_crash x1 U).1 ∧ Inv (k + 1) ((f_I_crash x1 G).2) P ((f_M_crash x1 U).2)
def Sim_restart : Prop := ∀ (k : Nat) (G : Nat → Nat → Int32) (P : Nat → Nat) (U : Nat → Nat → Int32) (x1 x2 : Int32), k + 1 ≤ 512 → Inv k G P U → (f_I_restart x1 G).1 = (f_M_restart x1 U).1 ∧ Inv (k + 1) ((f_I_restart x1 G).2) P ((f_M_restart x1 U).2)
def Sim_govern : Prop := ∀ (k : Nat) (G : Nat → Nat → Int32) (P : Nat → Nat) (U : Nat → Nat → Int32) (x1 x2 : Int32), k + 1 ≤ 512 → Inv k G P U → (f_I_govern x1 G).1 = (f_M_govern x1 U).1 ∧ Inv (k + 1) ((f_I_govern x1 G).2) P ((f_M_govern x1 U).2)
def Sim_tick : Prop := ∀ (k : Nat) (G : Nat → Nat → Int32) (P : Nat → Nat) (U : Nat → Nat → Int32) (x1 x2 : Int32), k + 1 ≤ 512 → Inv k G P U → (f_I_tick x1 G).1 = (f_M_tick x1 U).1 ∧ Inv (k + 1) ((f_I_tick x1 G).2) P ((f_M_tick x1 U).2)
def Sim_controller : Prop := ∀ (k : Nat) (G : Nat → Nat → Int32) (P : Nat → Nat) (U : Nat → Nat → Int32) (x1 x2 : Int32), k + 1 ≤ 512 → Inv k G P U → (f_I_controller x1 G) = (f_M_controller x1 U) ∧ Inv (k + 1) G P U
def Sim_broker : Prop := ∀ (k : Nat) (G : Nat → Nat → Int32) (P : Nat → Nat) (U : Nat → Nat → Int32) (x1 x2 : Int32), k + 1 ≤ 512 → Inv k G P U → (f_I_broker x1 x2 G) = (f_M_broker x1 x2 U) ∧ Inv (k + 1) G P U
def Sim_epochAt : Prop := ∀ (k : Nat) (G : Nat → Nat → Int32) (P : Nat → Nat) (U : Nat → Nat → Int32) (x1 x2 : Int32), k + 1 ≤ 512 → Inv k G P U → (f_I_epochAt x1 x2 G) = (f_M_epochAt x1 x2 U) ∧ Inv (k + 1) G P U
def Sim_valueAt : Prop := ∀ (k : Nat) (G : Nat → Nat → Int32) (P : Nat → Nat) (U : Nat → Nat → Int32) (x1 x2 : Int32), k + 1 ≤ 512 → Inv k G P U → (f_I_valueAt x1 x2 G) = (f_M_valueAt x1 x2 U) ∧ Inv (k + 1) G P U
def SimAll : Prop := Sim_produce ∧ Sim_commit ∧ Sim_readable ∧ Sim_committed ∧ Sim_fetch ∧ Sim_deliver ∧ Sim_lose ∧ Sim_flight ∧ Sim_message ∧ Sim_review ∧ Sim_learn ∧ Sim_crash ∧ Sim_restart ∧ Sim_govern ∧ Sim_tick ∧ Sim_controller ∧ Sim_broker ∧ Sim_epochAt ∧ Sim_valueAt
theorem SimAll.produce (h : SimAll) : Sim_produce := h.1
theorem SimAll.commit (h : SimAll) : Sim_commit := h.2.1
theorem SimAll.readable (h : SimAll) : Sim_readable := h.2.2.1
theorem SimAll.committed (h : SimAll) : Sim_committed := h.2.2.2.1
theorem SimAll.fetch (h : SimAll) : Sim_fetch := h.2.2.2.2.1
theorem SimAll.deliver (h : SimAll) : Sim_deliver := h.2.2.2.2.2.1
theorem SimAll.lose (h : SimAll) : Sim_lose := h.2.2.2.2.2.2.1
theorem SimAll.flight (h : SimAll) : Sim_flight := h.2.2.2.2.2.2.2.1
theorem SimAll.message (h : SimAll) : Sim_message := h.2.2.2.2.2.2.2.2.1
theorem SimAll.review (h : SimAll) : Sim_review := h.2.2.2.2.2.2.2.2.2.1
theorem SimAll.learn (h : SimAll) : Sim_learn := h.2.2.2.2.2.2.2.2.2.2.1
theorem SimAll.crash (h : SimAll) : Sim_crash := h.2.2.2.2.2.2.2.2.2.2.2.1
theorem SimAll.restart (h : SimAll) : Sim_restart := h.2.2.2.2.2.2.2.2.2.2.2.2.1
theorem SimAll.govern (h : SimAll) : Sim_govern := h.2.2.2.2.2.2.2.2.2.2.2.2.2.1
theorem SimAll.tick (h : SimAll) : Sim_tick := h.2.2.2.2.2.2.2.2.2.2.2.2.2.2.1
theorem SimAll.controller (h : SimAll) : Sim_controller := h.2.2.2.2.2.2.2.2.2.2.2.2.2.2.2.1
theorem SimAll.broker (h : SimAll) : Sim_broker := h.2.2.2.2.2.2.2.2.2.2.2.2.2.2.2.2.1
theorem SimAll.epochAt (h : SimAll) : Sim_epochAt := h.2.2.2.2.2.2.2.2.2.2.2.2.2.2.2.2.2.1
theorem SimAll.valueAt (h : SimAll) : Sim_valueAt := h.2.2.2.2.2.2.2.2.2.2.2.2.2.2.2.2.2.2
